/** Counts wrong answers, and ends the test with exit code 1 if there was one. */
final class Check {
    private static int wrong = 0;
    private static String sentence = "";

    private Check() {
    }

    /** The sentence of the document that the checks from here on hold to. */
    static void sentence(String promise, String words) {
        sentence = promise + " (" + words + "): ";
    }

    static void same(String what, Object got, Object want) {
        if (!got.equals(want)) {
            wrong++;
            System.out.println(sentence + what + ": got " + got + ", due is " + want);
        }
    }

    static void numbers(String what, long got, long want) {
        same(what, got, want);
    }

    static void end() {
        System.out.println(wrong == 0 ? "all answers are as due" : wrong + " answers are not as due");
        if (wrong != 0) {
            System.exit(1);
        }
    }
}
