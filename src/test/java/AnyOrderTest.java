/** Long runs of mixed calls, right and wrong ones, against the model. */
public final class AnyOrderTest {
    private static final int RUNS = 3000;
    private static final String[] OTHERS = {
        "get", "pile", "begin", "begin", "finish", "finish", "marked", "marked", "lost", "lost", "lost", "count",
    };

    private static long seed;

    public static void main(String[] args) {
        Check.sentence("whatever the order of steps and changes", AnyOrderTest::manyRuns);
        Check.end();
    }

    private static void manyRuns() {
        for (int run = 0; run < RUNS && Check.countOfWrong() < 20; run++) {
            seed = run * 7919L + 17;
            oneRun(run);
        }
    }

    private static void oneRun(int run) {
        PileMarker x = new PileMarker();
        Model model = new Model();
        int makes = below(5) == 0 ? 400 : 1 + below(60);
        int widest = 1 + below(20);
        for (int i = 0; i < Run.MOST_CALLS; i++) {
            Call call = i < makes ? new Call("make", below(widest + 1)) : nextCall(model);
            Check.due("run " + run + ", call " + i + ", " + call, call.on(x), model.answer(call));
        }
    }

    private static Call nextCall(Model model) {
        int pick = below(100);
        if (pick < 40) {
            int k = object(model);
            int field = below(30) == 0 ? below(24) - 2 : below(Math.max(1, model.fieldsOf(k)));
            return new Call("set", k, field, objectOrNothing(model));
        }
        if (pick < 50) {
            return new Call("root", below(20) == 0 ? below(20) - 2 : below(16), objectOrNothing(model));
        }
        if (pick < 72) {
            return new Call(pick < 64 ? "mark" : "preclean", steps());
        }
        if (pick < 76) {
            return new Call("make", below(12) == 0 ? below(40) - 10 : below(21));
        }
        return otherCall(OTHERS[below(OTHERS.length)], model);
    }

    private static Call otherCall(String name, Model model) {
        switch (name) {
            case "get": return new Call(name, object(model), below(6));
            case "pile": return new Call(name, below(3) == 0 ? below(70) - 2 : 1 + below(3));
            case "marked": return new Call(name, object(model));
            case "count": return new Call(name, below(8) - 1);
            default: return new Call(name);
        }
    }

    private static int steps() {
        if (below(25) == 0) {
            return below(3) * 5001 - 1;
        }
        return below(below(4) == 0 ? 5001 : 12);
    }

    private static int object(Model model) {
        return below(25) == 0 ? below(410) - 5 : below(Math.max(1, model.objects()));
    }

    private static int objectOrNothing(Model model) {
        return below(4) == 0 ? PileMarker.NONE : object(model);
    }

    private static int below(int bound) {
        seed = seed * 6364136223846793005L + 1442695040888963407L;
        return (int) ((seed >>> 33) % bound);
    }
}
