/** Counts what holds and what does not, and prints what does not. */
final class Checks {
    interface Call {
        void run();
    }

    private int made;
    private int wrong;
    private String sentence = "";

    /** Tells which sentence of the document the next checks hold the program to. */
    void about(String sentenceOfTheDocument) {
        sentence = "\"" + sentenceOfTheDocument + "\" ";
    }

    void equal(String what, long got, long due) {
        made++;
        if (got != due) {
            wrong++;
            System.out.println(sentence + what + " answered " + got + ", due is " + due);
        }
    }

    void yes(String what, boolean got) {
        equal(what, got ? 1 : 0, 1);
    }

    void no(String what, boolean got) {
        equal(what, got ? 1 : 0, 0);
    }

    /** Holds only if just the exception that is named comes, not one of a class below it. */
    void refuses(String what, Class<? extends RuntimeException> due, Call call) {
        made++;
        try {
            call.run();
        } catch (RuntimeException thrown) {
            if (thrown.getClass() == due) {
                return;
            }
            wrong++;
            System.out.println(sentence + what + " threw " + thrown + ", due is " + due.getSimpleName());
            return;
        }
        wrong++;
        System.out.println(sentence + what + " threw nothing, due is " + due.getSimpleName());
    }

    void outOfRange(String what, Call call) {
        refuses(what, IllegalArgumentException.class, call);
    }

    void wrongState(String what, Call call) {
        refuses(what, IllegalStateException.class, call);
    }

    /** Prints the count and ends the program with exit code 1 if anything did not hold. */
    void end(String name) {
        System.out.println(name + ": " + made + " checks, " + wrong + " wrong");
        if (wrong != 0 || made == 0) {
            System.exit(1);
        }
    }
}
