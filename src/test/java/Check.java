/** What the tests share: one test for each sentence of the document, and the exit code. */
final class Check {
    private static String sentence = "";
    private static int wrong = 0;
    private static int sentences = 0;

    private Check() {
    }

    /** A sentence of the document, or the part of one that names a case, and the test of its own. */
    static void sentence(String words, Runnable test) {
        sentence = words;
        sentences++;
        int before = wrong;
        test.run();
        System.out.println((wrong == before ? "holds: " : "BROKEN: ") + words);
    }

    static void wrong(String what) {
        wrong++;
        System.out.println("  " + sentence + ": " + what);
    }

    static void due(String what, String got, String want) {
        if (!got.equals(want)) {
            wrong(what + " answered " + got + ", due is " + want);
        }
    }

    static int countOfWrong() {
        return wrong;
    }

    static void end() {
        System.out.println(sentences + " sentences, " + wrong + " answers not as due");
        if (wrong != 0 || sentences == 0) {
            System.exit(1);
        }
    }
}
