/** Promises 19 to 23, sentence by sentence. */
final class EdgesOfChoice {
    private EdgesOfChoice() { }

    static void run() {
        best();
        bestRow();
        lacks();
        pool();
        gifts();
        giftsRefused();
        mute();
    }

    private static void nobody(String call, Due.On of3, Due.On below) {
        Due.refused(call + "(3)", -1, of3);
        Due.refused(call + "(-1)", -1, below);
    }

    private static void best() {
        Due.of("Promise 19", "The most WORTH of THINGS of one that can still be said today, with its CLOCK: how much;");
        // Sung for 3, 3, 3, 2 and 3 seconds.
        String things = "ab9-9=6;ab9-9=3;ab9-9=3;ab6-9=6;ab9-9=0";
        int[] clocks = {0, 1, 2, 4, 5, 7, 8, 10, 11, 9999, 0};
        int[] due = {0, 0, 6, 6, 12, 12, 15, 15, 18, 18, 0};
        ClockForTalk c = Due.town("0:0;0:0", things);
        for (int i = 0; i < clocks.length; i++) {
            c.sheet(2, 1, clocks[i], 0);
            Due.is("with a CLOCK of " + clocks[i], c.best(0), due[i]);
        }
        ClockForTalk d = Due.busy();
        Due.is("of a: one SAID, one too late", d.best(0), 0);
        Due.is("of b, on DAY 6", d.best(1), 4);
        d.days(3);
        Due.is("of b, on the last day", d.best(1), 4);
        d.days(1);
        Due.is("of b, a day later", d.best(1), 0);
        ClockForTalk n = Due.town("0:9;0:0", "");
        Due.is("one who has nothing to say", n.best(0), 0);
        Due.row("one who has nothing to say", n, 0, 0);
        ClockForTalk eight = Due.town("0:999;0:999", "ab1-9=99;ab1-9=99;ab1-9=99;ab1-9=99;ab1-9=99;ab1-9=99;ab1-9=99;ab1-9=99");
        Due.is("all eight", eight.best(0), 792);
        Due.row("all eight", eight, 255, 8);

        Due.of("Promise 19", "NONE: none such.");
        nobody("best", x -> x.best(3), x -> x.best(-1));
        Due.refused("best(MAX)", -1, x -> x.best(Integer.MAX_VALUE));
        Due.refused("best(MIN)", -1, x -> x.best(Integer.MIN_VALUE));
    }

    private static void bestRow() {
        Due.of("Promise 19", "the ROW: they (bits: of as much WORTH those that cost the least together, then the least bits), what they cost.");
        ClockForTalk c = Due.town("0:0;0:0", "ab9-9=6;ab9-9=3;ab9-9=3;ab6-9=6;ab9-9=0");
        int[] clocks = {1, 2, 6, 8, 11, 0};
        int[][] due = {{0, 0}, {8, 2}, {9, 5}, {11, 8}, {15, 11}, {0, 0}};
        for (int i = 0; i < clocks.length; i++) {
            c.sheet(2, 1, clocks[i], 0);
            c.best(0);
            Due.row("with a CLOCK of " + clocks[i], c, due[i]);
        }
        ClockForTalk least = Due.town("0:9;0:0", "ba1-9=1;ab9-9=5;ab9-9=5;ab9-9=5");
        least.sheet(2, 1, 6, 0);
        least.best(0);
        Due.row("of three alike two: the least bits", least, 6, 6);
        Due.rule(least, "0");
        least.best(0);
        Due.row("for nothing all", least, 14, 0);
        ClockForTalk free = Due.town("0:9;0:0", "ab9-9=0;ab9-9=5;ab9-9=0");
        Due.rule(free, "0");
        free.best(0);
        Due.row("what is worth nothing is left aside, though it costs nothing", free, 2, 0);
        ClockForTalk none = Due.town("0:9;0:0", "ab9-9=0;ab9-9=0");
        none.best(0);
        Due.row("nothing of any worth", none, 0, 0);
        ClockForTalk one = Due.town("0:9;0:9", Due.times("ab1-1=1;", 7) + "ba3-1=1");
        one.best(1);
        Due.row("the highest bit", one, 128, 1);
        ClockForTalk cheap = Due.town("0:9;0:0", "ab15-9=6;ab6-9=2;ab6-9=4");
        cheap.best(0);
        Due.row("all can be paid", cheap, 7, 9);
        cheap.sheet(2, 1, 5, 0);
        cheap.best(0);
        Due.row("the second and third cost less than the first", cheap, 6, 4);
    }

    private static void lacks() {
        Due.of("Promise 20", "The least that one needs more in its CLOCK to say all its THINGS that can be said today: how much (0: nothing); the ROW: what they cost, how many they are.");
        // 3 and 4 sung.
        ClockForTalk c = Due.town("0:0;0:0", "ab9-9=5;ab10-9=0;ba9-9=1;ab99-0=9");
        c.days(1);
        int[] clocks = {0, 6, 7, 8, 9999};
        int[] due = {7, 1, 0, 0, 0};
        for (int i = 0; i < clocks.length; i++) {
            c.sheet(2, 1, clocks[i], 0);
            Due.is("with a CLOCK of " + clocks[i], c.lacks(0), due[i]);
            Due.row("with a CLOCK of " + clocks[i], c, 7, 2);
        }
        c.say(1, 1);
        c.sheet(3, 0, 0, 0);
        Due.is("one was SAID, one is too late", c.lacks(0), 3);
        Due.row("one was SAID, one is too late", c, 3, 1);
        c.days(9);
        Due.is("all are too late", c.lacks(0), 0);
        Due.row("all are too late", c, 0, 0);
        ClockForTalk most = Due.town("0:0;0:0", "ab1-9=1;ab1-9=1;ab1-9=1;ab1-9=1;ab1-9=1;ab1-9=1;ab1-9=1;ab1-9=1");
        Due.rule(most, "999");
        Due.is("eight of the dearest", most.lacks(0), 7992);
        Due.row("eight of the dearest", most, 7992, 8);

        Due.of("Promise 20", "NONE: none such.");
        nobody("lacks", x -> x.lacks(3), x -> x.lacks(-1));
        Due.refused("lacks(MAX)", -1, x -> x.lacks(Integer.MAX_VALUE));
        Due.refused("lacks(MIN)", -1, x -> x.lacks(Integer.MIN_VALUE));
    }

    private static void pool() {
        Due.of("Promise 21", "All PEOPLE together, if clocks were one: the most WORTH of THINGS that can be said today with all CLOCKS added (COSTS as each one's CLOCK is now): how much; the ROW: they (bits: as best()), what they cost.");
        ClockForTalk c = Due.town("0:0;0:0;0:0", "ab9-9=5;ba9-9=6;ca9-9=4");
        int[] clocks = {0, 2, 3, 5, 6, 8, 9, 9999};
        int[] due = {0, 0, 6, 6, 11, 11, 15, 15};
        int[][] rows = {{0, 0}, {0, 0}, {2, 3}, {2, 3}, {3, 6}, {3, 6}, {7, 9}, {7, 9}};
        for (int i = 0; i < clocks.length; i++) {
            c.sheet(2, 3, clocks[i], -9999);
            Due.is("all that there is, " + clocks[i] + ", is a's", c.pool(), due[i]);
            Due.row("all that there is, " + clocks[i] + ", is a's", c, rows[i]);
        }
        c.sheet(2, 3, 1, 1);
        Due.is("1, 2 and 3 are 6", c.pool(), 11);
        ClockForTalk b = Due.busy();
        b.pool();
        Due.row("those not SAID, not too late", b, 12, 63);
        ClockForTalk e = Due.town("0:3;0:0", "ba9-9=5;ab9-9=5;ba9-9=0");
        Due.is("of equal ones", e.pool(), 5);
        Due.row("the least bits", e, 1, 3);
        ClockForTalk k = Due.town("0:3;0:9", "ab9-9=5;ba9-9=6");
        Due.rule(k, "c");
        k.pool();
        Due.row("3 by a's CLOCK, 9 by b's", k, 3, 12);
        k.sheet(2, 2, 3, 0);
        k.pool();
        Due.row("each by its own, not by all", k, 3, 6);
        Due.is("nobody", new ClockForTalk().pool(), 0);
    }

    private static void gifts() {
        Due.of("Promise 22", "The fewest seconds that are to be given among PEOPLE so that each THING of a set (bits; all can be said today) can be said: how many (what those lack who have too little); the ROW: how many lack something.");
        ClockForTalk c = Due.town("0:1;0:1;0:5", "ab9-9=5;ba9-9=6;ca9-9=4;ab3-9=1");
        int[] sets = {0, 1, 2, 3, 4, 5, 6, 8, 9};
        int[] due = {0, 2, 2, 4, 0, 2, 2, 0, 3};
        int[] lack = {0, 1, 1, 2, 0, 1, 1, 0, 1};
        for (int i = 0; i < sets.length; i++) {
            Due.is("gifts(" + sets[i] + ")", c.gifts(sets[i]), due[i]);
            Due.row("gifts(" + sets[i] + ")", c, lack[i]);
        }
        c.sheet(2, 3, 3, 0);
        Due.is("just enough each", c.gifts(7), 0);
        Due.row("just enough each", c, 0);
        Due.is("no set, and nobody", new ClockForTalk().gifts(0), 0);
        ClockForTalk eight = Due.town("0:0;0:8", Due.times("ab3-9=1;", 7) + "ab3-9=1");
        Due.is("all eight", eight.gifts(255), 8);
        Due.row("all eight", eight, 1);
        Due.is("the highest bit", eight.gifts(128), 1);
    }

    private static void giftsRefused() {
        Due.of("Promise 22", "-2: all CLOCKS together are not enough, or one can't be said today;");
        // 3 + 3 + 3 of 9, then of 8.
        ClockForTalk c = Due.town("0:9;0:0;0:0", "ab9-9=5;ba9-9=6;ca9-9=4");
        Due.is("just enough", c.gifts(7), 6);
        c.sheet(2, 1, 8, 0);
        Due.refused("gifts(7), of 8", -2, c, x -> x.gifts(7));
        Due.is("two of 8", c.gifts(6), 6);
        c.sheet(3, 0, 0, 0);
        Due.refused("gifts(4), of 0", -2, c, x -> x.gifts(4));
        Due.is("gifts(0), of 0", c.gifts(0), 0);
        Due.refused("gifts(1), which was SAID", -2, x -> x.gifts(1));
        Due.refused("gifts(2), which is too late", -2, x -> x.gifts(2));
        Due.refused("gifts(15), of which two can't be said", -2, x -> x.gifts(15));

        Due.of("Promise 22", "NONE: bits of none such.");
        int[] wrong = {16, 17, 31, 128, 256, 1 << 30, -1, -16, Integer.MIN_VALUE, Integer.MAX_VALUE};
        for (int those : wrong) Due.refused("gifts(" + those + ")", -1, x -> x.gifts(those));
        ClockForTalk eight = Due.town("0:9;0:9", Due.times("ab3-9=1;", 7) + "ab3-9=1");
        Due.is("255 of eight", eight.gifts(255), 0);
        Due.is("256 of eight", eight.gifts(256), -1);
        Due.is("1, when there is none", Due.town("0:9;0:9", "").gifts(1), -1);
    }

    private static void mute() {
        Due.of("Promise 23", "The first THING (least BY, then number) that can be said today and whose least COST is more than the CLOCK of who says it: it; the ROW: COST, the CLOCK.");
        ClockForTalk c = Due.town("0:2;0:5;0:2", "ab9-9=5;ba18-8=6;ca9-8=4;ca9-7=1;cb3-0=1");
        Due.is("the least BY of those that can't be paid", c.mute(), 3);
        Due.row("3 of 2", c, 3, 2);
        c.sheet(2, 3, 3, 0);
        Due.is("just enough is not less", c.mute(), 1);
        Due.row("6 of 3", c, 6, 3);
        c.sheet(2, 3, 0, 0);
        Due.is("on DAY 0, by DAY 0", c.mute(), 4);
        c.days(1);
        Due.is("it is too late then", c.mute(), 3);
        c.days(7);
        Due.is("by DAY 8: the least number", c.mute(), 1);
        c.sheet(2, 2, 9, 0);
        c.say(1, 1);
        c.sheet(2, 2, 0, 0);
        Due.is("that was SAID", c.mute(), 2);
        c.days(1);
        Due.is("by DAY 9", c.mute(), 0);
        Due.row("3 of 0", c, 3, 0);

        Due.of("Promise 23", "-2: none.");
        c.days(1);
        Due.refused("mute(), when all are too late", -2, c, x -> x.mute());
        Due.refused("mute(), when all can be paid", -2, x -> x.mute());
        Due.is("nothing to say", new ClockForTalk().mute(), -2);
        ClockForTalk free = Due.town("0:0;0:0", "ab9-9=1");
        Due.rule(free, "0");
        Due.is("for nothing", free.mute(), -2);
    }
}
