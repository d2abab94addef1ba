import java.util.NoSuchElementException;

/** What the tests share: texts told four signs at a time, and answers held against those that are due. */
final class Due {
    interface Call { int of(); }

    private static int wrong;
    private static int asked;

    private Due() { }

    static void is(String what, long got, long want) {
        asked++;
        if (got != want) {
            wrong++;
            System.out.println(what + " answered " + got + ", due is " + want);
        }
    }

    static void is(String what, boolean got, boolean want) {
        is(what, got ? 1 : 0, want ? 1 : 0);
    }

    static void row(String what, ClockForTalk clock, int... want) {
        is(what + ": numbers of the row", clock.count(10), want.length);
        for (int i = 0; i < want.length && i < clock.count(10); i++) {
            is(what + ": row(" + i + ")", clock.row(i), want[i]);
        }
    }

    static void throwsNoSuch(String what, Call call) {
        asked++;
        try {
            int got = call.of();
            wrong++;
            System.out.println(what + " answered " + got + ", due is NoSuchElementException");
        } catch (NoSuchElementException e) {
            // as is due
        }
    }

    /** THE TEXT is this one then (it was empty ahead). */
    static ClockForTalk tell(ClockForTalk clock, String text) {
        for (int i = 0; i < text.length(); i += 4) {
            int v = 0;
            for (int j = 0; j < 4; j++) {
                v = v << 8 | (i + j < text.length() ? text.charAt(i + j) : 0);
            }
            clock.sign(v);
        }
        if (!clock.end(text.length())) {
            is("end for the text " + text, 0, 1);
        }
        return clock;
    }

    static int people(ClockForTalk clock, String text) { return tell(clock, text).people(); }
    static int things(ClockForTalk clock, String text) { return tell(clock, text).things(); }
    static int rule(ClockForTalk clock, String text) { return tell(clock, text).rule(); }
    static int rate(ClockForTalk clock, String text) { return tell(clock, text).rate(); }
    static int talk(ClockForTalk clock, String text) { return tell(clock, text).talk(); }
    static int grammar(ClockForTalk clock, String text) { return tell(clock, text).grammar(); }
    static int shorter(ClockForTalk clock, String text) { return tell(clock, text).shorter(); }
    static int becomes(ClockForTalk clock, String text) { return tell(clock, text).becomes(); }

    static ClockForTalk town(String people, String things) {
        ClockForTalk clock = new ClockForTalk();
        if (people(clock, people) < 0) is("people " + people, 0, 1);
        if (things(clock, things) < 0) is("things " + things, 0, 1);
        return clock;
    }

    static String times(String s, int n) {
        StringBuilder b = new StringBuilder();
        for (int i = 0; i < n; i++) b.append(s);
        return b.toString();
    }

    static void finish() {
        System.out.println(wrong == 0 ? asked + " answers as due" : wrong + " of " + asked + " answers are not as due");
        if (wrong > 0) System.exit(1);
    }
}
