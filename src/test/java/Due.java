import java.util.NoSuchElementException;

/** What the tests share: texts told four signs at a time, and answers held against those that are due. */
final class Due {
    interface Call { int of(); }
    interface On { int of(ClockForTalk clock); }
    interface Asks { boolean of(ClockForTalk clock); }

    private static int wrong;
    private static int asked;
    private static String about = "";

    private Due() { }

    /** The answers behind this are of these words of the document, which stand under this heading of it. */
    static void of(String place, String words) {
        about = place + ", \"" + words + "\": ";
        if (!Document.name(place, words)) fault("no such words stand there");
    }

    private static void fault(String what) {
        wrong++;
        System.out.println(about + what);
    }

    static void is(String what, long got, long want) {
        asked++;
        if (got != want) fault(what + " answered " + got + ", due is " + want);
    }

    static void is(String what, boolean got, boolean want) {
        is(what, got ? 1 : 0, want ? 1 : 0);
    }

    static void row(String what, ClockForTalk clock, int... want) {
        is(what + ": numbers of the row", clock.count(10), want.length);
        for (int i = 0; i < want.length && i < clock.count(10); i++) {
            is(what + ": row(" + i + ")", clock.row(i), want[i]);
        }
    }

    static void throwsNoSuch(String what, Call call) {
        asked++;
        try {
            fault(what + " answered " + call.of() + ", due is NoSuchElementException");
        } catch (NoSuchElementException e) {
            // as is due
        }
    }

    /** THE TEXT is this one then. */
    static ClockForTalk tell(ClockForTalk clock, String text) {
        clock.end(0);
        for (int i = 0; i < text.length(); i += 4) {
            int v = 0;
            for (int j = 0; j < 4; j++) {
                v = v << 8 | (i + j < text.length() ? text.charAt(i + j) : 0);
            }
            clock.sign(v);
        }
        if (!clock.end(text.length())) {
            is("end for the text " + text, 0, 1);
        }
        return clock;
    }

    static int people(ClockForTalk clock, String text) { return tell(clock, text).people(); }
    static int things(ClockForTalk clock, String text) { return tell(clock, text).things(); }
    static int rule(ClockForTalk clock, String text) { return tell(clock, text).rule(); }
    static int rate(ClockForTalk clock, String text) { return tell(clock, text).rate(); }
    static int talk(ClockForTalk clock, String text) { return tell(clock, text).talk(); }
    static int grammar(ClockForTalk clock, String text) { return tell(clock, text).grammar(); }
    static int shorter(ClockForTalk clock, String text) { return tell(clock, text).shorter(); }
    static int becomes(ClockForTalk clock, String text) { return tell(clock, text).becomes(); }

    static ClockForTalk town(String people, String things) {
        ClockForTalk clock = new ClockForTalk();
        if (people(clock, people) < 0) is("people " + people, 0, 1);
        if (things(clock, things) < 0) is("things " + things, 0, 1);
        return clock;
    }

    /** All that can be asked of an object without changing it. */
    static String all(ClockForTalk clock) {
        StringBuilder s = new StringBuilder();
        for (int i = 0; i <= 11; i++) s.append(clock.count(i)).append(i < 11 ? " " : " signs; row:");
        for (int i = 0; i < clock.count(10); i++) s.append(' ').append(clock.row(i));
        for (int i = 0; i < clock.count(0); i++) {
            s.append("; person");
            for (int what = 0; what <= 6; what++) s.append(' ').append(clock.person(i, what));
        }
        for (int i = 0; i < clock.count(1); i++) {
            s.append("; thing");
            for (int what = 0; what <= 7; what++) s.append(' ').append(clock.thing(i, what));
        }
        for (int i = 0; i < clock.count(3); i++) {
            s.append("; loan");
            for (int what = 0; what <= 4; what++) s.append(' ').append(clock.loan(i, what));
        }
        return s.toString();
    }

    /**
     * A town in which much has been: a at 5 with 31 of 40, b at 6 with 15 of 10, c at 20 with 100 of 100; it is DAY 6;
     * THING 0 (a to b, 10 seconds) was SAID for 4, 1 (a to c, 20) is too late, 2 (b to a, 9) and 3 (c to b, 30) can
     * be said; LOAN 0 (c to a) has ended, 1 (a to b, 5 till 9) has not; four acts can be undone; b's CLOCK was read;
     * one LINE of THE GRAMMAR; 0 is kept; the ROW is 12, 63; THE TEXT is zz.
     */
    static ClockForTalk busy() {
        ClockForTalk clock = town("5:40;6:10;20:100", "ab10-9=5;ac20-5=8;ba9-9=4;cb30-50=9");
        clock.lend(2, 0, 20, 3);
        clock.lend(0, 1, 5, 9);
        clock.say(0, 1);
        clock.days(6);
        clock.read(1, 5);
        grammar(clock, "ab>c");
        clock.keep(0);
        clock.pool();
        return tell(clock, "zz");
    }

    /** A call on the busy town is answered so and changes nothing, the ROW neither. */
    static void refused(String call, int want, On on) {
        refused(call, want, busy(), on);
    }

    static void refused(String call, int want, ClockForTalk clock, On on) {
        String ahead = all(clock);
        is(call, on.of(clock), want);
        same(call + " changes nothing", all(clock), ahead);
    }

    static void refusedFalse(String call, Asks asks) {
        refused(call, 0, clock -> asks.of(clock) ? 1 : 0);
    }

    /** Likewise of a call that reads THE TEXT, which is empty then. */
    static void refusedText(String call, String text, int want, On on) {
        refusedText(call, text, want, busy(), on);
    }

    static void refusedText(String call, String text, int want, ClockForTalk clock, On on) {
        clock.end(0);
        String ahead = all(clock);
        is(call + " of " + text, on.of(tell(clock, text)), want);
        same(call + " of " + text + " changes nothing, and THE TEXT is empty", all(clock), ahead);
    }

    static void same(String what, String got, String want) {
        asked++;
        if (!got.equals(want)) fault(what + ": it was [" + want + "], it is [" + got + "]");
    }

    static String times(String s, int n) {
        StringBuilder b = new StringBuilder();
        for (int i = 0; i < n; i++) b.append(s);
        return b.toString();
    }

    /** Each word of the document must have been named by a test. */
    static void wholeDocument() {
        about = "";
        is("headings of the document", Document.places(), 43);
        for (String words : Document.unnamed()) fault("no test names: " + words);
    }

    static void finish() {
        System.out.println(wrong == 0 ? asked + " answers as due" : wrong + " of " + asked + " answers are not as due");
        if (wrong > 0) System.exit(1);
    }
}
