/** What the tests share: it compares answers, prints the wrong ones, and ends a test. */
final class Due {
    interface Call {
        void run();
    }

    private static int wrong = 0;
    private static String sentence = "";

    private Due() {
    }

    /** A test of one sentence of the document; its words stand before each answer that is wrong. */
    static void sentence(String words, Call test) {
        sentence = "\"" + words + "\": ";
        String thrown = thrownBy(test);
        if (!thrown.equals("nothing")) {
            tellWrong("a call that must not throw threw " + thrown);
        }
        sentence = "";
    }

    private static void tellWrong(String what) {
        wrong++;
        System.out.println(sentence + what);
    }

    static void same(String what, long got, long want) {
        if (got != want) {
            tellWrong(what + " answered " + got + ", due is " + want);
        }
    }

    static void same(String what, String got, String want) {
        if (!got.equals(want)) {
            tellWrong(what + " answered " + got + ", due is " + want);
        }
    }

    static void same(String what, boolean got, boolean want) {
        same(what, got ? 1 : 0, want ? 1 : 0);
    }

    static String thrownBy(Call call) {
        try {
            call.run();
        } catch (RuntimeException e) {
            return e.getClass().getSimpleName();
        }
        return "nothing";
    }

    private static void throwing(String what, String want, Call call) {
        String got = thrownBy(call);
        if (!got.equals(want)) {
            tellWrong(what + " threw " + got + ", due is " + want);
        }
    }

    static void bad(String what, Call call) {
        throwing(what, "IllegalArgumentException", call);
    }

    static void refused(String what, Call call) {
        throwing(what, "IllegalStateException", call);
    }

    static void missing(String what, Call call) {
        throwing(what, "NoSuchElementException", call);
    }

    static void fine(String what, Call call) {
        throwing(what, "nothing", call);
    }

    static ClauseCourt courtOf(int variables) {
        ClauseCourt court = new ClauseCourt();
        for (int i = 0; i < variables; i++) {
            court.variable();
        }
        return court;
    }

    static int clause(ClauseCourt court, int... literals) {
        for (int l : literals) {
            court.literal(l);
        }
        return court.close();
    }

    static void assume(ClauseCourt court, int... literals) {
        for (int l : literals) {
            court.assume(l);
        }
    }

    /** The answers of count(0) to count(5). */
    static void counts(String when, ClauseCourt court, int... want) {
        for (int what = 0; what < want.length; what++) {
            same(when + ": count(" + what + ")", court.count(what), want[what]);
        }
    }

    /** The model as a text of 0 and 1, variable 1 first. */
    static void model(String when, ClauseCourt court, String want) {
        for (int v = 1; v <= want.length(); v++) {
            same(when + ": value(" + v + ")", court.value(v), want.charAt(v - 1) == '1');
        }
    }

    static void end() {
        System.out.println(wrong == 0 ? "all answers are as due" : wrong + " answers are not as due");
        if (wrong != 0) {
            System.exit(1);
        }
    }
}
