/** Promises 12 to 18, sentence by sentence. */
final class EdgesOfTalk {
    private EdgesOfTalk() { }

    static void run() {
        cost();
        say();
        sayRefused();
        give();
        lend();
        lendRefused();
        days();
        talk();
        talkActs();
        talkWrong();
        undo();
        undoTwelve();
        undoForgotten();
    }

    private static void cost() {
        Due.of("Promise 12", "COST of a THING by a WAY, now (SAID or not).");
        ClockForTalk c = Due.busy();
        Due.is("SAID", c.cost(0, 2), 10);
        Due.is("too late", c.cost(1, 3), 40);
        Due.is("more than the CLOCK has", c.cost(2, 3), 18);
        Due.is("the last THING", c.cost(3, 3), 60);
        c.move(0, 20);
        Due.is("where they live now", c.cost(1, 0), 10);
        Due.rule(c, "c+d");
        Due.is("by the CLOCK and DAY now", c.cost(1, 0), 37);

        Due.of("Promise 12", "-2: it is not heard so;");
        Due.refused("cost(3, 2), 14 STEPS apart", -2, d -> d.cost(3, 2));
        Due.refused("cost(1, 0), too late, too", -2, d -> d.cost(1, 0));
        ClockForTalk w = Due.town("0:9;0:9", "ab5-9=1");
        int[] reach = {1, 3, 9};
        for (int way = 0; way < 3; way++) {
            w.move(1, reach[way]);
            Due.is("way " + way + ", just heard", w.cost(0, way) >= 0, true);
            w.move(1, reach[way] + 1);
            Due.is("way " + way + ", just not heard", w.cost(0, way), -2);
        }

        Due.of("Promise 12", "NONE: others.");
        int[][] wrong = {{-1, 0}, {4, 0}, {8, 0}, {0, -1}, {0, 4}, {3, 4}, {4, 4}, {Integer.MAX_VALUE, 0}, {Integer.MIN_VALUE, 0}, {0, Integer.MAX_VALUE}, {0, Integer.MIN_VALUE}};
        for (int[] w2 : wrong) Due.refused("cost(" + w2[0] + ", " + w2[1] + ")", -1, d -> d.cost(w2[0], w2[1]));
    }

    private static void say() {
        Due.of("Promise 13", "A THING is said by a WAY: COST; the CLOCK is so much less.");
        ClockForTalk c = Due.busy();
        Due.is("sung", c.say(2, 1), 3);
        Due.is("the CLOCK of who says it", c.person(1, 1), 12);
        Due.is("its SPENT", c.person(1, 3), 3);
        Due.is("the CLOCK of whom it is for", c.person(0, 1), 31);
        Due.is("it was SAID", c.count(4), 5);
        ClockForTalk all = Due.busy();
        Due.rule(all, "c");
        Due.is("all that the CLOCK has", all.say(2, 0), 15);
        Due.is("nothing is left", all.person(1, 1), 0);
        ClockForTalk free = Due.town("0:0;0:0", "ab9-0=1");
        Due.rule(free, "0");
        Due.is("for 0, with a CLOCK of 0, by the last day", free.say(0, 3), 0);
        Due.is("it was SAID", free.count(4), 1);
        Due.is("it can be undone", free.count(9), 1);
        ClockForTalk dear = Due.town("0:9;0:0", "ab9-0=1");
        dear.sheet(2, 1, 999, 0);
        Due.rule(dear, "999");
        Due.is("for 999", dear.say(0, 0), 999);
    }

    private static void sayRefused() {
        Due.of("Promise 13", "-2: it was SAID; -3: it is too late (BY); -4: it is not heard so; -5: the CLOCK has less; NONE: others (asked in this order, that first).");
        Due.refused("say(0, 1), which was SAID", -2, c -> c.say(0, 1));
        Due.refused("say(1, 3), on DAY 6 by DAY 5", -3, c -> c.say(1, 3));
        Due.refused("say(3, 2), 14 STEPS apart", -4, c -> c.say(3, 2));
        Due.refused("say(2, 3), 18 of 15", -5, c -> c.say(2, 3));
        ClockForTalk less = Due.busy();
        Due.rule(less, "c+1");
        Due.refused("say(2, 0), one second less", -5, less, c -> c.say(2, 0));
        // Each that holds with all that are asked behind it.
        ClockForTalk c = Due.busy();
        c.days(4);
        c.move(1, 90);
        c.sheet(3, 0, 0, 0);
        Due.refused("SAID, too late, not heard, less", -2, c, d -> d.say(0, 0));
        Due.refused("too late, not heard, less", -3, c, d -> d.say(2, 0));
        Due.refused("not heard, less", -4, c, d -> d.say(3, 0));
        Due.refused("less", -5, c, d -> d.say(3, 3));
        int[][] wrong = {{-1, 0}, {4, 0}, {0, -1}, {0, 4}, {1, 4}, {3, -1}, {2, 99}, {Integer.MAX_VALUE, 1}, {Integer.MIN_VALUE, 1}, {2, Integer.MIN_VALUE}};
        for (int[] w : wrong) Due.refused("say(" + w[0] + ", " + w[1] + ")", -1, c, d -> d.say(w[0], w[1]));
    }

    private static void give() {
        Due.of("Promise 14", "One gives n (1 .. 9999) seconds to another one: the CLOCK of that one then (9999 at most; what is more is gone).");
        ClockForTalk c = Due.busy();
        Due.is("1", c.give(0, 1, 1), 16);
        Due.is("all that it has", c.give(0, 1, 30), 46);
        Due.is("nothing is left", c.person(0, 1), 0);
        c.sheet(2, 2, 9999, -9999);
        Due.is("9999", c.give(0, 1, 9999), 9999);
        c.sheet(2, 2, 9999, -1);
        Due.is("9998 and 1 are 9999", c.give(0, 1, 1), 9999);
        Due.is("9999 and 1 are 9999", c.give(0, 1, 1), 9999);
        Due.is("what is more is gone", c.person(0, 1), 9997);
        Due.is("9997 more", c.give(0, 1, 9997), 9999);
        Due.is("all of it is gone", c.count(6), 9999);

        Due.of("Promise 14", "-2: it has less;");
        Due.refused("give(1, 0, 16) of 15", -2, d -> d.give(1, 0, 16));
        Due.refused("give(1, 0, 9999) of 15", -2, d -> d.give(1, 0, 9999));
        ClockForTalk none = Due.busy();
        none.sheet(3, 0, 0, 0);
        Due.refused("give(0, 1, 1) of 0", -2, none, d -> d.give(0, 1, 1));

        Due.of("Promise 14", "NONE: others, like ones.");
        int[][] wrong = {{0, 0, 1}, {1, 1, 99}, {0, 1, 0}, {0, 1, -1}, {0, 1, 10000}, {0, 3, 1}, {3, 0, 1}, {-1, 0, 1}, {0, -1, 1}, {3, 3, 1},
            {0, 1, Integer.MIN_VALUE}, {0, 1, Integer.MAX_VALUE}, {Integer.MIN_VALUE, 1, 1}, {0, Integer.MAX_VALUE, 1}};
        for (int[] w : wrong) Due.refused("give(" + w[0] + ", " + w[1] + ", " + w[2] + ")", -1, d -> d.give(w[0], w[1], w[2]));
    }

    private static void lend() {
        Due.of("Promise 15", "One lends n (1 .. 999) seconds to another one till a day behind DAY (9999 at most): the LOAN's number; the CLOCKS go as by give().");
        ClockForTalk c = Due.busy();
        Due.is("1, till tomorrow", c.lend(2, 1, 1, 7), 2);
        Due.is("who lends", c.person(2, 1), 99);
        Due.is("who owes", c.person(1, 1), 16);
        Due.is("all that it has, till 9999", c.lend(2, 1, 99, 9999), 3);
        Due.is("nothing is left", c.person(2, 1), 0);
        Due.is("DUE", c.loan(3, 3), 9999);
        c.sheet(2, 3, 9999, 0);
        Due.is("999", c.lend(0, 1, 999, 9), 4);
        Due.is("who owes has 9999 at most", c.person(1, 1), 9999);
        Due.is("who lends has so much less", c.person(0, 1), 9000);
        Due.is("OWED is all of it", c.loan(4, 2), 999);
        Due.is("the sixth", c.lend(0, 1, 1, 9), 5);
        ClockForTalk u = Due.town("0:9;0:9", "");
        u.lend(0, 1, 1, 9);
        u.undo();
        Due.is("one that was undone was not made", u.lend(1, 0, 1, 9), 0);
    }

    private static void lendRefused() {
        Due.of("Promise 15", "-2: it has less;");
        Due.refused("lend(1, 0, 16, 9) of 15", -2, c -> c.lend(1, 0, 16, 9));
        Due.refused("lend(1, 0, 999, 9999) of 15", -2, c -> c.lend(1, 0, 999, 9999));

        Due.of("Promise 15", "-3: 6 LOANS were made;");
        ClockForTalk six = Due.busy();
        for (int i = 2; i < 6; i++) six.lend(2, 0, 1, 99);
        Due.refused("a seventh, though one has ended", -3, six, c -> c.lend(2, 0, 1, 99));

        Due.of("Promise 15", "-4: another day;");
        int[] days = {6, 5, 0, -1, 10000, Integer.MAX_VALUE, Integer.MIN_VALUE};
        for (int due : days) Due.refused("lend(2, 0, 1, " + due + ") on DAY 6", -4, c -> c.lend(2, 0, 1, due));
        ClockForTalk late = Due.town("0:9;0:9", "");
        for (int i = 0; i < 101; i++) late.days(99);
        Due.is("DAY", late.count(2), 9999);
        Due.is("on DAY 9999 till 9999", late.lend(0, 1, 1, 9999), -4);
        Due.is("on DAY 9999 till 10000", late.lend(0, 1, 1, 10000), -4);
        late.undo();
        late.days(98);
        Due.is("on DAY 9998 till 9999", late.lend(0, 1, 1, 9999), 0);

        Due.of("Promise 15", "NONE: others, like ones");
        int[][] wrong = {{0, 0, 1, 9}, {0, 1, 0, 9}, {0, 1, -1, 9}, {0, 1, 1000, 9}, {0, 3, 1, 9}, {3, 0, 1, 9}, {-1, 0, 1, 9}, {0, -1, 1, 9},
            {0, 1, Integer.MIN_VALUE, 9}, {0, 1, Integer.MAX_VALUE, 9}};
        for (int[] w : wrong) Due.refused("lend(" + w[0] + ", " + w[1] + ", " + w[2] + ", 9)", -1, c -> c.lend(w[0], w[1], w[2], w[3]));

        Due.of("Promise 15", "(asked: NONE, -3, -4, -2).");
        Due.refused("like ones, six, another day, less", -1, six, c -> c.lend(1, 1, 99, 0));
        Due.refused("six, another day, less", -3, six, c -> c.lend(1, 0, 99, 0));
        Due.refused("another day, less", -4, c -> c.lend(1, 0, 99, 0));
        Due.refused("another day, behind 9999, less", -4, c -> c.lend(1, 0, 99, 10000));
    }

    private static void days() {
        Due.of("Promise 16", "n DAYS (0 .. 99) go by: DAY; the ROW: how many LOANS ended in these, what was lost in these.");
        ClockForTalk c = Due.busy();
        Due.is("none", c.days(0), 6);
        Due.row("none", c, 0, 0);
        Due.is("none can't be undone", c.count(9), 4);
        Due.is("two", c.days(2), 8);
        Due.row("two", c, 0, 0);
        c.lend(2, 1, 30, 9);
        c.sheet(2, 3, 0, 0);
        c.sheet(2, 2, 0, 12);
        Due.is("one", c.days(1), 9);
        // b has 12: 5 go to a, 7 of 30 to c.
        Due.row("two ended, 23 were lost", c, 2, 23);
        Due.is("99", c.days(99), 108);
        Due.row("no more in these", c, 0, 0);
        Due.is("LOSS stays, the ROW tells these days alone", c.person(2, 6), 23);

        Due.of("Promise 16", "NONE: another n.");
        int[] wrong = {-1, 100, 101, Integer.MAX_VALUE, Integer.MIN_VALUE};
        for (int n : wrong) Due.refused("days(" + n + ")", -1, d -> d.days(n));
    }

    private static void talk() {
        Due.of("Promise 17", "THE TEXT tells A TALK (an empty one: no ACTS), ACTS with ; between: s, a digit (THING), a digit 0 .. 3 (WAY): say(); b and a digit: say() by the WAY that thing() 7 tells; g, two letters a .. f, a number (1 to 3 digits): give(); d and a number (1 or 2 digits): days()");
        ClockForTalk c = Due.busy();
        c.end(0);
        String ahead = Due.all(c);
        Due.is("no ACTS", c.talk(), 0);
        Due.row("no ACTS", c, 0, 0);
        c.pool();
        Due.same("no ACTS change nothing", Due.all(c), ahead);
        Due.is("s20", Due.talk(c, "s20"), 1);
        Due.row("s20 whispers THING 2", c, 0, 5);
        c.undo();
        Due.is("b2", Due.talk(c, "b2"), 1);
        Due.row("b2 sings it", c, 0, 3);
        Due.is("gba12", Due.talk(c, "gba12"), 1);
        Due.is("b has none left", c.person(1, 1), 0);
        Due.is("gab043", Due.talk(c, "gab043"), 1);
        Due.is("b has 43", c.person(1, 1), 43);
        Due.is("d2", Due.talk(c, "d2"), 1);
        Due.is("DAY 8", c.count(2), 8);
        Due.is("d02", Due.talk(c, "d02"), 1);
        Due.is("DAY 10", c.count(2), 10);
        Due.is("d0", Due.talk(c, "d0"), 1);
        Due.is("d99", Due.talk(c, "d99"), 1);
        Due.is("DAY 109", c.count(2), 109);
        Due.is("60 signs", Due.talk(c, Due.times("d1;", 19) + "d01"), 20);
        ClockForTalk six = Due.town("0:9;0:9;0:9;0:9;0:9;0:9", "fe1-9=1;ef2-9=1;fe1-9=1;fe1-9=1;fe1-9=1;fe1-9=1;fe1-9=1;ef3-9=1");
        Due.is("f gives e", Due.talk(six, "gfe9"), 1);
        Due.is("THING 7", Due.talk(six, "b7;s12"), 2);
    }

    private static void talkActs() {
        Due.of("Promise 17", "they are done one by one, till one can't be (it answers below 0; a THING that is not there): how many were done; the ROW: 1 if one could not be, else 0; what all that was said cost.");
        String[] texts = {"b2;b3", "b0", "s01;d1", "b1;b2", "s13", "s30;b3", "s23;b2", "b2;b2", "gaa1", "gab0;d1", "gba16", "gba15;gba1", "gad1", "gfa1", "b4;b2", "b9",
            "s43", "s93;d5", "d1;d2;b4;d9", "b2;gac5;b3;d9;d91;b2"};
        int[][] due = {{2, 0, 63}, {0, 1, 0}, {0, 1, 0}, {0, 1, 0}, {0, 1, 0}, {0, 1, 0}, {0, 1, 0}, {1, 1, 3}, {0, 1, 0}, {0, 1, 0}, {0, 1, 0}, {1, 1, 0}, {0, 1, 0}, {0, 1, 0}, {0, 1, 0}, {0, 1, 0},
            {0, 1, 0}, {0, 1, 0}, {2, 1, 0}, {6, 0, 66}};
        for (int i = 0; i < texts.length; i++) {
            ClockForTalk c = Due.busy();
            c.end(0);
            Due.is("talk() of " + texts[i], Due.talk(c, texts[i]), due[i][0]);
            Due.row("talk() of " + texts[i], c, due[i][1], due[i][2]);
            Due.is("talk() of " + texts[i] + ": what can be undone", c.count(9), due[i][0] > 0 ? 5 : 4);
        }
        ClockForTalk c = Due.busy();
        c.end(0);
        Due.talk(c, "d1;b2;b0;d9");
        Due.is("those ahead stay done: DAY", c.count(2), 7);
        Due.is("those ahead stay done: SAID", c.count(4), 5);
        c.pool();
        ClockForTalk r = Due.town("0:9;0:9", "ab1-0=1");
        r.sheet(2, 2, 999, 0);
        Due.rule(r, "c/3*2");
        Due.is("said twice with New Year between", Due.talk(r, "b0;d99;d1;b0"), 4);
        Due.row("666 of 999, 6 of the 9 of the year", r, 0, 672);
        Due.is("SPENT is since New Year", r.person(0, 3), 6);
        ClockForTalk free = Due.town("0:0;0:0", "ab1-0=1;ba1-0=1");
        Due.rule(free, "0");
        Due.is("ACTS that answer 0 are done: said for nothing, d0 on DAY 0", Due.talk(free, "b0;d0;s13"), 3);
        Due.row("ACTS that answer 0", free, 0, 0);
    }

    private static void talkWrong(String text, int due) {
        Due.refusedText("talk()", text, due, c -> c.talk());
    }

    private static void talkWrong() {
        Due.of("Promise 17", "-1 - p: the sign at p can't stand there (as people(); 60 signs); nothing is done then.");
        String[] texts = {"x", "D1", ";", "s", "sx", "sx0", "s0", "s0x", "s04", "s000", "s0;", "b", "bx", "ba", "b00", "b0b1", "g", "g1", "gg", "ga", "ga1", "gag", "gah1",
            "gab", "gabx", "gab;", "gab1234", "gab1x", "d", "dx", "d;", "d123", "d1,", "d1;", "d1;;", "d1;x", "d1;s", "d-1", "gab-1", " d1", "d1 ",
            "b:", "b/", "s:0", "s/0", "s0/", "g`b1", "ga`1", "gab/", "gab:", "d/", "d:"};
        int[] due = {-1, -1, -1, -2, -2, -2, -3, -3, -3, -4, -3, -2, -2, -2, -3, -3, -2, -2, -2, -3, -3, -3, -3,
            -4, -4, -4, -7, -5, -2, -2, -2, -4, -3, -4, -4, -4, -5, -2, -4, -1, -3,
            -2, -2, -2, -2, -3, -2, -3, -4, -4, -2, -2};
        for (int i = 0; i < texts.length; i++) talkWrong(texts[i], due[i]);
        talkWrong(Due.times("d1;", 20), -61);
        talkWrong(Due.times("d1;", 20) + "d1", -61);
        talkWrong(Due.times("d1;", 19) + "d01;", -61);
        talkWrong(Due.times("d1;", 19) + "d01x", -61);
        talkWrong(Due.times("d1;", 19) + "d011", -60 - 1);
        talkWrong(Due.times("d1;", 19) + "d01;d1;d1;d1;d1;d1;d", -61);
        talkWrong(Due.times("d1;", 19) + "d0x;d1", -60);
        talkWrong(Due.times("d1;", 19) + "dx1;d1", -59);
        talkWrong(Due.times("d1;", 18) + "gab123456", -61);
        talkWrong(Due.times("d1;", 17) + "gab123;gxx", -60);
    }

    private static void undo() {
        Due.of("Promise 18", "The latest say(), give(), lend(), days(), talk()");
        ClockForTalk c = Due.busy();
        c.end(0);
        String[] then = new String[6];
        then[0] = state(c);
        c.say(2, 1);
        then[1] = state(c);
        c.give(0, 2, 5);
        then[2] = state(c);
        c.lend(2, 1, 7, 20);
        then[3] = state(c);
        c.days(99);
        then[4] = state(c);
        Due.talk(c, "d1;b0");
        for (int i = 4; i >= 0; i--) {
            Due.is("undo", c.undo(), 4 + i);
            Due.same("as ahead of act " + i, state(c), then[i]);
        }

        Due.of("Promise 18", "(DAY, CLOCKS, SPENT, LOANS, LOSS, what was SAID are as ahead of it): how many are left that can be.");
        ClockForTalk b = Due.busy();
        Due.is("days()", b.undo(), 3);
        Due.is("DAY", b.count(2), 0);
        Due.is("the LOAN has not ended", b.loan(0, 4), 0);
        Due.is("CLOCK", b.person(0, 1), 51);
        Due.is("say()", b.undo(), 2);
        Due.is("SPENT", b.person(0, 3), 0);
        Due.is("SAID", b.count(4), 0);
        Due.is("lend()", b.undo(), 1);
        Due.is("LOANS", b.count(3), 1);
        Due.is("lend()", b.undo(), 0);
        Due.is("no LOANS", b.count(3), 0);
        ClockForTalk l = Due.town("0:9;0:0", "");
        l.lend(0, 1, 9, 1);
        l.sheet(3, 0, 0, 0);
        l.days(1);
        l.undo();
        Due.is("LOSS", l.person(0, 6), 0);
        // Another LOAN in the place of one that is undone must not be left in it.
        ClockForTalk o = Due.town("0:99;0:99;0:99", "");
        o.lend(0, 1, 20, 40);
        o.days(30);
        Due.is("OWED on DAY 30", o.loan(0, 2), 22);
        o.undo();
        Due.is("OWED as ahead of days()", o.loan(0, 2), 20);
        o.keep(0);
        o.undo();
        o.lend(2, 0, 7, 50);
        o.again(0);
        int[] loan = {0, 1, 20, 40, 0};
        for (int what = 0; what < 5; what++) Due.is("loan(0, " + what + ") as kept", o.loan(0, what), loan[what]);
        ClockForTalk k = Due.busy();
        k.move(0, 9);
        Due.rule(k, "l");
        k.forget();
        k.undo();
        Due.is("where one lives is not", k.person(0, 0), 9);
        Due.is("THE RULE is not", k.cost(0, 3), 10);
        Due.is("what was read is not", k.count(8), 0);
        Due.row("the ROW is not", k, 12, 63);
        k.sheet(2, 3, 1, 1);
        k.undo();
        Due.is("a sheet is not undone, but CLOCKS are as ahead of the act", k.count(6), 150);

        Due.of("Promise 18", "Refused: none.");
        Due.refused("undo()", -1, new ClockForTalk(), d -> d.undo());
        for (int i = 0; i < 2; i++) b.undo();
        Due.refused("undo(), when all are undone", -1, b, d -> d.undo());
    }

    private static String state(ClockForTalk c) {
        String all = Due.all(c);
        // Without what can be undone and the ROW, which undo() leaves.
        return c.count(2) + " " + c.count(4) + " " + c.count(6) + all.substring(all.indexOf("; person"));
    }

    private static void undoTwelve() {
        Due.of("Promise 18", "(of 12 that are kept, the latest ones; such as were done; days() of 1 and more, talk() of which one ACT was done, as one) is undone");
        ClockForTalk c = Due.town("0:99;0:9", "ab1-9=1");
        for (int i = 1; i <= 14; i++) {
            c.give(0, 1, 1);
            Due.is("after " + i, c.count(9), Math.min(i, 12));
        }
        for (int i = 11; i >= 0; i--) Due.is("undo", c.undo(), i);
        Due.is("the first two stay", c.person(0, 1), 97);
        Due.is("none is left", c.undo(), -1);
        c.say(0, 4);
        c.say(1, 0);
        c.give(1, 1, 1);
        c.give(0, 1, 999);
        c.lend(0, 1, 999, 9);
        c.lend(0, 1, 1, 0);
        c.days(0);
        c.days(100);
        c.talk();
        Due.talk(c, "x");
        Due.talk(c, "b9;d1");
        c.years(1, 9);
        c.move(0, 1);
        c.sheet(2, 2, 9, 9);
        c.keep(0);
        c.read(0, 9);
        Due.is("such as were not done, and others", c.count(9), 0);
        Due.is("days(1)", c.days(1), 1);
        Due.is("is kept", c.count(9), 1);
        Due.is("a talk of three ACTS, of which two were done", Due.talk(c, "d1;d1;b9"), 2);
        Due.is("is kept as one", c.count(9), 2);
        Due.is("undone as one", c.undo(), 1);
        Due.is("DAY", c.count(2), 1);
        Due.is("a talk of d0", Due.talk(c, "d0"), 1);
        Due.is("is kept, for its ACT was done", c.count(9), 2);
    }

    private static void undoForgotten() {
        Due.of("Promise 18", "(people(), things() and again() forget them, if they are not refused; empty ones do not.)");
        ClockForTalk c = Due.busy();
        c.end(0);
        c.people();
        c.things();
        Due.is("empty ones", c.count(9), 4);
        Due.people(c, "1:1;");
        Due.people(c, "1:1;1:1;1:1;1:1");
        Due.things(c, "aa1-1=1");
        Due.is("refused ones", c.count(9), 4);
        c.again(1);
        c.again(2);
        Due.is("again() that is refused", c.count(9), 4);
        c.rule();
        c.grammar();
        c.forget();
        Due.is("other calls", c.count(9), 4);
        ClockForTalk p = Due.busy();
        p.end(0);
        Due.people(p, "1:1");
        Due.is("people()", p.count(9), 0);
        Due.is("undo() behind it", p.undo(), -1);
        ClockForTalk t = Due.busy();
        t.end(0);
        Due.things(t, "ab1-1=1");
        Due.is("things()", t.count(9), 0);
        ClockForTalk a = Due.busy();
        a.again(0);
        Due.is("again()", a.count(9), 0);
        a.give(0, 1, 1);
        Due.is("one act behind it", a.count(9), 1);
        Due.is("undone", a.undo(), 0);
        Due.is("none ahead of it is left", a.undo(), -1);
    }
}
