import java.util.StringJoiner;

/** A call of the face with its arguments, so that it can be done again on another object. */
record Call(String name, int... args) {
    static final String DONE = "done";
    static final String NO_SUCH_ELEMENT = "throws.NoSuchElementException";
    static final String BAD_ARGUMENT = "throws.IllegalArgumentException";
    static final String BAD_STATE = "throws.IllegalStateException";

    /** Does the call: its answer as text, or the exception's name behind "throws.". */
    String on(PileMarker x) {
        try {
            return answer(x);
        } catch (RuntimeException e) {
            return "throws." + e.getClass().getSimpleName();
        }
    }

    private String answer(PileMarker x) {
        switch (name) {
            case "make": return "" + x.make(args[0]);
            case "set": return "" + x.set(args[0], args[1], args[2]);
            case "get": return "" + x.get(args[0], args[1]);
            case "root": return "" + x.root(args[0], args[1]);
            case "pile": return "" + x.pile(args[0]);
            case "begin": x.begin(); return DONE;
            case "mark": x.mark(args[0]); return DONE;
            case "preclean": x.preclean(args[0]); return DONE;
            case "finish": return "" + x.finish();
            case "marked": return "" + x.marked(args[0]);
            case "lost": return "" + x.lost();
            case "count": return "" + x.count(args[0]);
            default: throw new AssertionError("the face has no " + name);
        }
    }

    @Override
    public String toString() {
        StringJoiner text = new StringJoiner(", ", name + "(", ")");
        for (int arg : args) {
            text.add(Integer.toString(arg));
        }
        return text.toString();
    }
}
