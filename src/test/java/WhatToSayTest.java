/** Promises 19 to 23: best, lacks, pool, gifts, mute. */
public final class WhatToSayTest {
    public static void main(String[] args) {
        best();
        lacks();
        pool();
        gifts();
        mute();
        Due.finish();
    }

    private static void best() {
        Due.of("Promise 19", "The most WORTH of THINGS of one that can still be said today, with its CLOCK: how much; the ROW: they (bits: of as much WORTH those that cost the least together, then the least bits), what they cost. NONE: none such.");
        // Least costs (three apart, sung): 4, 7, 3 of a, and 34 (shouted, c is far) of a.
        ClockForTalk c = Due.town("0:11;3:40;50:0", "ab10-9=5;ab20-5=8;ab9-9=4;ac17-50=9;ba9-9=1");
        Due.is("19: 4 and 7 are 11", c.best(0), 13);
        Due.row("19: the first two", c, 3, 11);
        Due.is("19: b", c.best(1), 1);
        Due.row("19: b", c, 16, 3);
        Due.is("19: c has nothing to say", c.best(2), 0);
        Due.row("19: c has nothing to say", c, 0, 0);
        Due.is("19: nobody", c.best(3), -1);
        Due.is("19: nobody, ahead", c.best(-1), -1);
        Due.row("19: the row stays", c, 0, 0);
        c.give(1, 0, 37);
        Due.is("19: all but the first", c.best(0), 5 + 8 + 4 + 9);
        Due.row("19: all of them", c, 15, 48);
        c.days(6);
        Due.is("19: too late", c.best(0), 18);
        c.say(0, 1);
        Due.is("19: SAID", c.best(0), 13);
        Due.row("19: two are left", c, 12, 37);

        ClockForTalk e = Due.town("0:9;0:0", "ab9-9=6;ab9-9=3;ab9-9=3;ab6-9=6;ab9-9=0");
        // Sung 3, 3, 3, 2, 3: of WORTH 12 alone the first and the fourth are 5 seconds.
        Due.is("19: the most worth", e.best(0), 15);
        Due.row("19: of as cheap ones the least bits", e, 11, 8);
        e.sheet(2, 1, 6, 0);
        Due.is("19: worth 12", e.best(0), 12);
        Due.row("19: what costs the least", e, 9, 5);
        e.sheet(2, 1, 2, 0);
        Due.is("19: worth 6", e.best(0), 6);
        Due.row("19: the fourth", e, 8, 2);
        e.sheet(2, 1, 1, 0);
        Due.is("19: nothing can be paid", e.best(0), 0);
        Due.row("19: nothing can be paid", e, 0, 0);
        ClockForTalk z = Due.town("0:9;0:0", "ab9-9=0;ab9-9=5");
        Due.rule(z, "0");
        Due.is("19: for nothing", z.best(0), 5);
        Due.row("19: without what has no worth", z, 2, 0);
        ClockForTalk k = Due.town("0:20;0:0", "ab9-9=5;ab9-9=5");
        Due.rule(k, "c/2+(w=3)");
        Due.is("19: costs by the clock as it is now", k.best(0), 10);
        Due.row("19: ten each", k, 3, 20);
    }

    private static void lacks() {
        Due.of("Promise 20", "The least that one needs more in its CLOCK to say all its THINGS that can be said today: how much (0: nothing); the ROW: what they cost, how many they are. NONE: none such.");
        ClockForTalk c = Due.town("0:11;3:40;50:0", "ab10-9=5;ab20-5=8;ab9-9=4;ac17-50=9;ba9-9=1");
        Due.is("20: 48 less 11", c.lacks(0), 37);
        Due.row("20: 48 for four", c, 48, 4);
        Due.is("20: b lacks nothing", c.lacks(1), 0);
        Due.row("20: b", c, 3, 1);
        Due.is("20: c", c.lacks(2), 0);
        Due.row("20: c", c, 0, 0);
        Due.is("20: nobody", c.lacks(3), -1);
        Due.is("20: nobody, ahead", c.lacks(-1), -1);
        Due.row("20: the row stays", c, 0, 0);
        c.give(1, 0, 37);
        Due.is("20: just enough", c.lacks(0), 0);
        c.say(0, 1);
        c.days(6);
        Due.is("20: those that can be said today", c.lacks(0), 0);
        Due.row("20: two", c, 37, 2);
    }

    private static void pool() {
        Due.of("Promise 21", "All PEOPLE together, if clocks were one: the most WORTH of THINGS that can be said today with all CLOCKS added (COSTS as each one's CLOCK is now): how much; the ROW: they (bits: as best()), what they cost.");
        ClockForTalk c = Due.town("0:1;0:1;0:5", "ab9-9=5;ba9-9=6;ca9-9=4");
        // Three seconds each, seven in all.
        Due.is("21: two of them", c.pool(), 11);
        Due.row("21: two of them", c, 3, 6);
        Due.is("21: a alone can't", c.best(0), 0);
        c.sheet(2, 3, 3, 0);
        Due.is("21: all", c.pool(), 15);
        Due.row("21: all", c, 7, 9);
        c.sheet(3, 0, 0, 0);
        Due.is("21: none", c.pool(), 0);
        Due.row("21: none", c, 0, 0);
        c.sheet(2, 3, 3, 0);
        c.say(1, 1);
        Due.is("21: SAID", c.pool(), 9);
        Due.row("21: SAID", c, 5, 6);
        c.days(10);
        Due.is("21: too late", c.pool(), 0);
        ClockForTalk e = Due.town("0:3;0:0", "ab9-9=5;ba9-9=5");
        Due.is("21: of equal ones", e.pool(), 5);
        Due.row("21: the least bits", e, 1, 3);
        ClockForTalk k = Due.town("0:3;0:9", "ab9-9=5;ba9-9=5");
        Due.rule(k, "c");
        Due.is("21: by each one's clock", k.pool(), 10);
        Due.row("21: by each one's clock", k, 3, 12);
    }

    private static void gifts() {
        Due.of("Promise 22", "The fewest seconds that are to be given among PEOPLE so that each THING of a set (bits; all can be said today) can be said: how many (what those lack who have too little); the ROW: how many lack something. -2: all CLOCKS together are not enough, or one can't be said today; NONE: bits of none such.");
        ClockForTalk c = Due.town("0:1;0:1;0:5", "ab9-9=5;ba9-9=6;ca9-9=4;ab30-5=1");
        Due.is("22: none", c.gifts(0), 0);
        Due.row("22: none", c, 0);
        Due.is("22: what a lacks", c.gifts(1), 2);
        Due.row("22: one", c, 1);
        Due.is("22: what a and b lack", c.gifts(3), 4);
        Due.row("22: two", c, 2);
        Due.is("22: c has enough", c.gifts(4), 0);
        Due.row("22: none lacks", c, 0);
        Due.is("22: 9 of 7", c.gifts(7), -2);
        Due.row("22: the row stays", c, 0);
        Due.is("22: 10 of 7", c.gifts(8), -2);
        Due.is("22: none such", c.gifts(16), -1);
        Due.is("22: none such, and a clock too small", c.gifts(31), -1);
        Due.is("22: below 0", c.gifts(-1), -1);
        Due.is("22: the highest bit", c.gifts(Integer.MIN_VALUE), -1);
        c.sheet(2, 3, 13, 0);
        Due.is("22: nobody lacks", c.gifts(15), 0);
        c.sheet(2, 2, 12, 1);
        Due.is("22: 13 and 3", c.gifts(11), 1);
        c.say(1, 1);
        Due.is("22: SAID", c.gifts(2), -2);
        c.days(6);
        Due.is("22: too late", c.gifts(8), -2);
        c.sheet(2, 3, 2, 1);
        Due.is("22: all that there is", c.gifts(5), 1);
        c.sheet(2, 1, 6, 0);
        Due.is("22: just all clocks", c.gifts(5), 3);
        c.sheet(2, 1, 5, 0);
        Due.is("22: one too few", c.gifts(5), -2);
    }

    private static void mute() {
        Due.of("Promise 23", "The first THING (least BY, then number) that can be said today and whose least COST is more than the CLOCK of who says it: it; the ROW: COST, the CLOCK. -2: none.");
        ClockForTalk c = Due.town("0:1;0:5;0:2", "ab9-9=5;ba18-9=6;ca9-7=4;ca9-9=1");
        Due.is("23: the least BY", c.mute(), 2);
        Due.row("23: 3 of 2", c, 3, 2);
        c.days(8);
        Due.is("23: then the number", c.mute(), 0);
        Due.row("23: 3 of 1", c, 3, 1);
        c.give(1, 0, 2);
        Due.is("23: b lacks then", c.mute(), 1);
        Due.row("23: 6 of 3", c, 6, 3);
        c.sheet(2, 3, 6, 0);
        Due.is("23: none", c.mute(), -2);
        Due.row("23: the row stays", c, 6, 3);
        c.sheet(2, 3, 3, 0);
        Due.is("23: just enough is enough", c.mute(), 1);
        c.sheet(2, 3, 6, 0);
        c.say(1, 1);
        c.sheet(3, 0, 0, 0);
        Due.is("23: SAID ones are left aside", c.mute(), 0);
        c.days(2);
        Due.is("23: all too late", c.mute(), -2);
        Due.is("23: nobody", new ClockForTalk().mute(), -2);
    }
}
