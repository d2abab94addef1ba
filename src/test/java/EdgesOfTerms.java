/** "Terms" 1 and 2, sentence by sentence. */
final class EdgesOfTerms {
    private static final String ONE = "Terms 1";
    private static final String TWO = "Terms 2";

    private EdgesOfTerms() { }

    static void run() {
        people();
        things();
        ways();
        ruleText();
        expression();
        given();
        day();
        interest();
        due();
        newYear();
        rowsAndBits();
        questions();
        by();
        refusedNumbers();
        refusedTexts();
        noneFirst();
        rowStays();
        headings();
    }

    private static void people() {
        Due.of(ONE, "PEOPLE 0 .. (at most 6; written a .. f)");
        ClockForTalk six = Due.town("0:1;0:2;0:3;0:4;0:5;0:6", "");
        Due.is("count(0)", six.count(0), 6);
        Due.is("person(5, 1)", six.person(5, 1), 6);
        Due.is("a seventh", Due.people(six, "0:7"), -1);
        Due.is("count(0) then", six.count(0), 6);
        Due.is("f to a", Due.things(six, "fa1-1=1"), 1);
        Due.is("f is 5", six.thing(0, 0), 5);
        Due.is("g is nobody", Due.things(six, "ga1-1=1"), -1);

        Due.of(ONE, "a STEP 0 .. 99 (where one lives)");
        ClockForTalk c = Due.town("0:1;99:1", "");
        Due.is("the least STEP", c.person(0, 0), 0);
        Due.is("the most", c.person(1, 0), 99);
        Due.is("STEP 100", Due.people(c, "100:1"), -3);

        Due.of(ONE, "a CLOCK 0 .. 9999 (seconds)");
        Due.is("a sheet of -1, 10000", c.sheet(2, 2, -1, 10001), 9999);
        Due.is("the least", c.person(0, 1), 0);
        Due.is("the most", c.person(1, 1), 9999);

        Due.of(ONE, "YEARLY 0 .. 999 (what the CLOCK is at New Year)");
        ClockForTalk y = Due.town("0:0;0:999", "");
        Due.is("YEARLY 1000", Due.people(y, "0:1000"), -6);
        y.sheet(2, 2, 5, 0);
        y.days(99);
        Due.is("the CLOCKS ahead of New Year", y.count(6), 10);
        y.days(1);
        Due.is("of YEARLY 0", y.person(0, 1), 0);
        Due.is("of YEARLY 999", y.person(1, 1), 999);

        Due.of(ONE, "They are told by a text of at most 76 signs: LINES with ; between, each one more: a number (STEP, 1 or 2 digits), :, a number (YEARLY, 1 to 3 digits; the CLOCK at first).");
        ClockForTalk n = new ClockForTalk();
        Due.is("three", Due.people(n, "7:3;07:03;7:003"), 3);
        for (int i = 0; i < 3; i++) {
            Due.is("STEP of " + i, n.person(i, 0), 7);
            Due.is("YEARLY of " + i, n.person(i, 2), 3);
            Due.is("CLOCK of " + i + " at first", n.person(i, 1), 3);
        }
        Due.is("one more", Due.people(n, "8:4"), 1);
        Due.is("they are behind those that are there", n.person(3, 0), 8);
    }

    private static void things() {
        Due.of(ONE, "THINGS 0 .. (at most 8)");
        ClockForTalk c = Due.town("0:9;1:9", Due.times("ab1-1=1;", 7) + "ba1-1=1");
        Due.is("count(1)", c.count(1), 8);
        Due.is("thing(7, 0)", c.thing(7, 0), 1);
        Due.is("a ninth", Due.things(c, "ab1-1=1"), -1);
        Due.is("count(1) then", c.count(1), 8);

        Due.of(ONE, "who says it, to whom (another one), SECONDS 1 .. 99, BY (the last day, 0 .. 99), WORTH 0 .. 99, SAID or not");
        ClockForTalk t = Due.town("0:99;1:99", "ab1-0=0;ba99-99=99");
        int[][] due = {{0, 1, 1, 0, 0, 0}, {1, 0, 99, 99, 99, 0}};
        for (int i = 0; i < 2; i++) {
            for (int what = 0; what < 6; what++) Due.is("thing(" + i + ", " + what + ")", t.thing(i, what), due[i][what]);
        }
        t.say(1, 1);
        Due.is("SAID", t.thing(1, 5), 1);
        Due.is("the other not", t.thing(0, 5), 0);
        Due.is("to itself", Due.things(t, "aa1-1=1"), -2);
        Due.is("SECONDS 0", Due.things(t, "ab0-1=1"), -3);
        Due.is("SECONDS 100", Due.things(t, "ab100-1=1"), -5);
        Due.is("BY 100", Due.things(t, "ab1-100=1"), -7);
        Due.is("WORTH 100", Due.things(t, "ab1-1=100"), -9);

        Due.of(ONE, "They are told by a text of at most 76 signs: LINES with ; between, each one more: two unlike letters of PEOPLE, SECONDS (1 or 2 digits, not 0), -, BY (1 or 2 digits), =, WORTH (1 or 2 digits).");
        Due.is("76 signs", Due.things(Due.town("0:1;1:1", ""), Due.times("ab10-10=10;", 6) + "ab10-10=10"), 7);
        Due.is("77 signs", Due.things(Due.town("0:1;1:1", ""), Due.times("ab10-10=10;", 6) + "ab10-10=10;"), -77);
        ClockForTalk z = Due.town("0:1;1:1", "ab05-05=05;ba5-5=5");
        for (int what = 2; what < 5; what++) {
            Due.is("a 0 ahead, thing(0, " + what + ")", z.thing(0, what), 5);
            Due.is("one digit, thing(1, " + what + ")", z.thing(1, what), 5);
        }
        Due.is("one more", Due.things(z, "ab7-7=7"), 1);
        Due.is("it is behind those that are there", z.thing(2, 2), 7);
    }

    private static void ways() {
        Due.of(ONE, "WAYS of speech: 0 whispered (heard no more than 1 STEP apart), 1 sung (3), 2 loud (9), 3 shouted (99).");
        ClockForTalk c = Due.town("0:99;0:1", "ab6-9=1");
        int[] cost = {3, 2, 6, 12};
        int[] reach = {1, 3, 9, 99};
        for (int way = 0; way < 4; way++) {
            c.move(1, reach[way]);
            Due.is("way " + way + ", " + reach[way] + " apart", c.cost(0, way), cost[way]);
            c.move(1, 0);
            c.move(0, reach[way]);
            Due.is("way " + way + ", so far to the other side", c.cost(0, way), cost[way]);
            c.move(0, 0);
            if (way < 3) {
                c.move(1, reach[way] + 1);
                Due.is("way " + way + ", one STEP more", c.cost(0, way), -2);
            }
        }
        Due.is("way 4", c.cost(0, 4), -1);
    }

    private static void ruleText() {
        String usual = "l*(w=2)+l*2*(w=3)+(l+1)/2*(w=0)+(l+2)/3*(w=1)";
        Due.of(ONE, "THE RULE is a text of at most 40 signs (at first none: " + usual + ").");
        ClockForTalk c = Due.town("0:999;0:1", "ab1-9=1;ab2-9=1;ab3-9=1;ab98-9=1;ab99-9=1");
        int[] seconds = {1, 2, 3, 98, 99};
        for (int i = 0; i < 5; i++) {
            int l = seconds[i];
            int[] due = {(l + 1) / 2, (l + 2) / 3, l, 2 * l};
            for (int way = 0; way < 4; way++) Due.is(l + " seconds at first, way " + way, c.cost(i, way), due[way]);
        }
        Due.is("what holds at first has 45 signs itself", Due.rule(c, usual), -41);
        Due.is("40 signs", Due.rule(c, "1111111111".substring(7) + Due.times("+1", 18) + "1"), 0);
        Due.is("41 signs", Due.rule(c, "111" + Due.times("+1", 18) + "11"), -41);
        Due.is("cost by the 40 signs", c.cost(0, 0), 111 + 17 + 11);
    }

    /** What a RULE comes to for a THING of 20 seconds, said loud 5 STEPS apart, on DAY 7, with 300 on the CLOCK. */
    private static void worth(String rule, int due) {
        ClockForTalk c = Due.town("10:300;15:1;11:1;30:1", "ab20-99=1");
        c.days(7);
        Due.is("the text " + rule, Due.rule(c, rule), 0);
        Due.is("cost by " + rule, c.cost(0, 2), due);
    }

    private static void wrongRule(String rule, int due) {
        Due.refusedText("rule()", rule, due, c -> c.rule());
    }

    private static void expression() {
        Due.of(ONE, "EXPRESSION: < > = bind least (two; 1 or 0; not one behind the other)");
        worth("1+1<3", 1);
        worth("3<1+1", 0);
        worth("2*3>5", 1);
        worth("5>2*3", 0);
        worth("2<2", 0);
        worth("2>2", 0);
        worth("7-5=2", 1);
        worth("3=2", 0);
        worth("(1<2)<(1>2)", 0);
        worth("7*(1<2)", 7);
        wrongRule("1<2<3", -4);
        wrongRule("1=1>0", -4);
        wrongRule("<1", -1);
        wrongRule("1<", -3);
        wrongRule("(1<2=1)", -5);

        Due.of(ONE, "then + - (from the left)");
        worth("9-3-2", 4);
        worth("9-3+2", 8);
        worth("1+2*3", 7);
        wrongRule("+1", -1);
        wrongRule("1+", -3);

        Due.of(ONE, "then * / (from the left; by 0: 0; cut to 0)");
        worth("100/5/2", 10);
        worth("7/2*2", 6);
        worth("2*7/2", 7);
        worth("7/0", 0);
        worth("0/0+3", 3);
        worth("5+7/(w-2)", 5);
        worth("(0-7)/2+9", 6);
        worth("7/-2+9", 6);
        worth("-7/-2", 3);
        wrongRule("*1", -1);
        wrongRule("1/", -3);

        Due.of(ONE, "then - ahead of a thing (any many)");
        worth("--5", 5);
        worth("---5+9", 4);
        worth("9--5", 14);
        worth("9---5", 4);
        worth("2*-3+9", 3);
        worth("9+-(2+3)", 4);
        worth("--(-l+30)", 10);
        worth(Due.times("-", 38) + "l", 20);
        worth(Due.times("-", 37) + "l", 0);
        worth("9" + Due.times("-", 38) + "5", 14);
        wrongRule("-", -2);
        wrongRule("-+1", -2);

        Due.of(ONE, "things: a NUMBER of 1 to 3 digits");
        worth("7", 7);
        worth("07", 7);
        worth("007", 7);
        worth("999", 999);
        worth("0", 0);
        wrongRule("1234", -4);
        wrongRule("0000", -4);
        wrongRule("1 2", -2);

        Due.of(ONE, "an EXPRESSION in ( ) (at most 4 in one another)");
        worth("((((7))))", 7);
        worth("((((1<2)+1)+1)+1)+1", 5);
        worth("(((1)))+((((2))))-(((1)))", 2);
        wrongRule("(((((7)))))", -5);
        wrongRule("1+((((-(7)))))", -8);
        wrongRule("()", -2);
        wrongRule("(7", -3);
        wrongRule("7)", -2);
        wrongRule("(7)(7)", -4);
    }

    private static void given() {
        Due.of(ONE, "and, of a THING that is said: l SECONDS, w the WAY, s how many STEPS apart they live");
        worth("l", 20);
        worth("w", 2);
        worth("s", 5);
        wrongRule("L", -1);
        wrongRule("x", -1);
        wrongRule("ll", -2);
        wrongRule("l5", -2);

        Due.of(ONE, "c the CLOCK of who says it (ahead)");
        worth("c", 300);
        ClockForTalk c = Due.town("0:300;0:1", "ab20-99=1;ab20-99=1");
        Due.rule(c, "c/3");
        Due.is("of 300", c.say(0, 2), 100);
        Due.is("of the 200 that are left", c.say(1, 2), 66);

        Due.of(ONE, "d the DAY by 100 (rest)");
        ClockForTalk d = Due.town("0:300;0:1", "ab20-99=1");
        Due.rule(d, "d");
        Due.is("DAY 0", d.cost(0, 2), 0);
        d.days(99);
        Due.is("DAY 99", d.cost(0, 2), 99);
        d.days(1);
        Due.is("DAY 100", d.cost(0, 2), 0);
        d.days(99);
        d.days(2);
        Due.is("DAY 201", d.cost(0, 2), 1);

        Due.of(ONE, "h how many (but who says it) live where it is heard");
        ClockForTalk h = Due.town("10:9;10:9;9:9;13:9;1:9;99:9", "ab1-9=1;fe1-9=1");
        Due.rule(h, "h");
        int[] due = {2, 3, 4, 5};
        for (int way = 0; way < 4; way++) Due.is("of a by way " + way, h.cost(0, way), due[way]);
        Due.is("of f, shouted", h.cost(1, 3), 5);

        Due.of(ONE, "As ints, put to 0 .. 999: COST.");
        worth("998+1", 999);
        worth("999+1", 999);
        worth("999*999", 999);
        worth("1-2", 0);
        worth("-999*999", 0);
        worth("999*999*999<0", 0);
        worth("999*999*999*3<0", 1);
        worth("999*999*999*3", 0);
        worth("512*512*512*16<0", 1);
        worth("512*512*512*16-1>0", 1);
        worth("512*512*512*16+512*512*512*16=0", 1);
        worth("-(512*512*512*16)<0", 1);
        worth("512*512*512*16/-1<0", 1);
        worth("512*512*512*16/-1", 0);
    }

    private static void day() {
        Due.of(ONE, "THE DAY (at first 0) is counted.");
        ClockForTalk c = Due.town("0:9;0:9", "");
        Due.is("at first", c.count(2), 0);
        c.days(2);
        c.days(3);
        Due.is("two and three", c.count(2), 5);
        for (int i = 0; i < 101; i++) c.days(99);
        Due.is("it goes on behind 9999", c.count(2), 5 + 9999);

        Due.of(ONE, "LOANS 0 .. (at most 6): who lent to whom, how much is OWED, DUE (a day), ended or not.");
        ClockForTalk l = Due.town("0:99;0:0", "");
        for (int i = 0; i < 6; i++) Due.is("one more", l.lend(0, 1, 1 + i, 9 - i), i);
        Due.is("a seventh", l.lend(0, 1, 1, 9), -3);
        l.days(4);
        int[] first = {0, 1, 1, 9, 0};
        int[] last = {0, 1, 6, 4, 1};
        for (int what = 0; what < 5; what++) {
            Due.is("loan(0, " + what + ")", l.loan(0, what), first[what]);
            Due.is("loan(5, " + what + ")", l.loan(5, what), last[what]);
        }

        Due.of(ONE, "A DAY goes by: (1) DAY is 1 more.");
        ClockForTalk d = new ClockForTalk();
        for (int i = 1; i <= 3; i++) Due.is("a day", d.days(1), i);
    }

    private static void interest() {
        Due.of(ONE, "(2) If it is a multiple of 30, of each LOAN that has not ended, OWED is a tenth (cut) more.");
        int[] owed = {1, 9, 10, 19, 20, 999};
        int[] then = {1, 9, 11, 20, 22, 1098};
        int[] later = {1, 9, 12, 22, 24, 1207};
        ClockForTalk c = Due.town("0:999;0:0", "");
        c.sheet(2, 1, 9999, 0);
        for (int i = 0; i < 6; i++) c.lend(0, 1, owed[i], 99);
        c.days(29);
        for (int i = 0; i < 6; i++) Due.is("DAY 29, of " + owed[i], c.loan(i, 2), owed[i]);
        c.days(1);
        for (int i = 0; i < 6; i++) Due.is("DAY 30, of " + owed[i], c.loan(i, 2), then[i]);
        c.days(29);
        for (int i = 0; i < 6; i++) Due.is("DAY 59, of " + owed[i], c.loan(i, 2), then[i]);
        c.days(1);
        for (int i = 0; i < 6; i++) Due.is("DAY 60, of " + owed[i], c.loan(i, 2), later[i]);
        ClockForTalk e = Due.town("0:99;0:0", "");
        e.lend(0, 1, 50, 29);
        e.lend(0, 1, 20, 30);
        e.days(60);
        Due.is("one that has ended on DAY 29", e.loan(0, 2), 50);
        Due.is("one that is due on DAY 30 grows first, and then no more", e.loan(1, 2), 22);
        ClockForTalk m = Due.town("0:99;0:0", "");
        m.days(30);
        m.lend(0, 1, 50, 99);
        m.days(29);
        Due.is("one made on DAY 30 does not grow till DAY 60", m.loan(0, 2), 50);
    }

    private static void due() {
        Due.of(ONE, "(3) Of each LOAN (by numbers) whose DUE is DAY: as much of OWED as the CLOCK of who owes has goes to the CLOCK of who lent (9999 at most there); the LOAN has ended; LOSS of who lent is more by what was not paid.");
        ClockForTalk c = Due.town("0:100;0:0;0:0", "");
        c.lend(0, 1, 50, 2);
        c.lend(1, 2, 30, 2);
        c.lend(0, 1, 7, 3);
        c.days(1);
        Due.is("the day ahead", c.loan(0, 4), 0);
        c.sheet(2, 3, 0, 15);
        c.days(1);
        // b has 15, c 30: first b pays a its 15 of 50, then c pays b all 30.
        int[] clocks = {15, 30, 0};
        int[] losses = {35, 0, 0};
        for (int i = 0; i < 3; i++) {
            Due.is("CLOCK of " + i, c.person(i, 1), clocks[i]);
            Due.is("LOSS of " + i, c.person(i, 6), losses[i]);
        }
        Due.is("the first has ended", c.loan(0, 4), 1);
        Due.is("the second, too", c.loan(1, 4), 1);
        Due.is("the third not", c.loan(2, 4), 0);
        c.sheet(2, 3, 7, 0);
        c.days(1);
        Due.is("just enough was there", c.person(1, 1), 0);
        Due.is("no LOSS by it", c.person(0, 6), 35);
        ClockForTalk none = Due.town("0:100;0:0", "");
        none.lend(0, 1, 50, 1);
        none.sheet(3, 0, 0, 0);
        none.days(1);
        Due.is("nothing there: all is LOSS", none.person(0, 6), 50);
        Due.is("it has ended", none.loan(0, 4), 1);
        ClockForTalk full = Due.town("0:100;0:0", "");
        full.lend(0, 1, 50, 1);
        full.sheet(2, 2, 9960, 0);
        full.days(1);
        Due.is("9999 at most there", full.person(0, 1), 9999);
        Due.is("all of it is paid", full.person(1, 1), 9910);
        Due.is("and none is LOSS", full.person(0, 6), 0);
    }

    private static void newYear() {
        Due.of(ONE, "(4) If DAY is a multiple of 100 (New Year): each CLOCK is YEARLY; all THINGS that were SAID are to be said again.");
        ClockForTalk c = Due.town("0:100;0:20", "ab9-99=5;ba3-2=1");
        Due.talk(c, "b0;b1;gba9");
        c.days(99);
        Due.is("DAY 99: CLOCKS", c.count(6), 100 - 3 + 20 - 1);
        Due.is("DAY 99: SAID", c.count(4), 3);
        c.days(1);
        Due.is("DAY 100: a", c.person(0, 1), 100);
        Due.is("DAY 100: b", c.person(1, 1), 20);
        Due.is("DAY 100: SAID", c.count(4), 0);
        Due.is("DAY 100: said again", c.say(1, 1), 1);
        c.days(99);
        Due.is("DAY 199: SAID", c.count(4), 2);
        c.days(1);
        Due.is("DAY 200: SAID", c.count(4), 0);
        ClockForTalk l = Due.town("0:100;0:20", "");
        l.lend(0, 1, 50, 100);
        l.sheet(2, 2, 30, 0);
        l.days(99);
        l.days(1);
        Due.is("what is due on New Year is due ahead of it: 66 less 30", l.person(0, 6), 36);
        Due.is("CLOCKS are YEARLY all the same", l.person(1, 1), 20);
        ClockForTalk t = Due.town("0:100;0:0", "");
        t.lend(0, 1, 10, 300);
        t.sheet(2, 2, 0, 99);
        for (int i = 0; i < 3; i++) t.days(99);
        t.days(2);
        Due.is("DAY 299: CLOCK as at New Year", t.person(1, 1), 0);
        Due.is("DAY 299: ten by nine tenths, each cut", t.person(1, 4), 19);
        t.days(1);
        Due.is("DAY 300: a tenth more, then due, then New Year", t.person(0, 6), 20);
    }

    private static void rowsAndBits() {
        Due.of(TWO, "ROW: numbers told last by a call that says so.");
        ClockForTalk c = Due.busy();
        Due.row("pool()", c, 12, 63);
        c.gifts(0);
        Due.row("gifts() tells one number", c, 0);
        c.cost(2, 0);
        c.give(2, 0, 1);
        Due.row("cost(), give() tell none", c, 0);

        Due.of(TWO, "Rows of numbers are compared from the first on.");
        ClockForTalk r = Due.town("0:9;0:9;0:9;0:9", "");
        Due.rule(r, "0");
        Due.is("relay() for nothing", r.relay(0, 3, 1), 0);
        Due.row("0 1 2 3 is ahead of 0 1 3, 0 2 3, 0 3", r, 0, 1, 2, 3);
        Due.grammar(r, "ab>g;bc>a");
        Due.shorter(r, "abc");
        Due.row("aa is ahead of gc", r, 0, 0);

        Due.of(TWO, "Sets (of THINGS, PEOPLE) are bits.");
        Due.is("THING 0 was SAID", c.count(4), 1);
        Due.is("2 and 3 can be said", c.count(5), 12);
        Due.is("b was read", c.count(8), 2);
        Due.is("gifts() of 2 and 3", c.gifts(12), 0);
        Due.is("THING 4 is none such", c.gifts(16), -1);
        Due.is("criers() for c and b", c.criers(0, 6, 10), 1);
        Due.is("of f, who is nobody", c.criers(0, 32, 10), -1);
    }

    private static void question(String call, Due.On on) {
        ClockForTalk c = Due.busy();
        ClockForTalk d = Due.busy();
        on.of(c);
        // The ROW is told by questions: both have the same one then.
        c.pool();
        d.pool();
        Due.same(call, Due.all(c), Due.all(d));
        Due.is(call + ": what was kept", c.again(0), true);
        Due.is(call + ": CLOCKS then", c.count(6), 146);
    }

    private static void questions() {
        Due.of(TWO, "Questions change nothing.");
        question("person", c -> c.person(0, 1));
        question("thing", c -> c.thing(3, 7));
        question("loan", c -> c.loan(1, 2));
        question("cost", c -> c.cost(3, 3));
        question("best", c -> c.best(1));
        question("lacks", c -> c.lacks(2));
        question("pool", c -> c.pool());
        question("gifts", c -> c.gifts(12));
        question("mute", c -> c.mute());
        question("relay", c -> c.relay(0, 1, 10));
        question("criers", c -> c.criers(0, 7, 10));
        question("debate", c -> c.debate(30, 20, 5));
        question("enough", c -> c.enough(30, 5));
        question("spoke", c -> c.spoke(1));
        question("look", c -> c.look());
        question("run", c -> c.run(1));
        question("years", c -> c.years(3, 60));
        question("count", c -> c.count(6));
        question("row", c -> c.row(0));
        ClockForTalk c = Due.busy();
        c.end(0);
        String ahead = Due.all(c);
        Due.becomes(c, "ab");
        Due.same("becomes", Due.all(c), ahead);
        Due.rate(c, "l");
        c.pool();
        Due.same("rate", Due.all(c), ahead);
        Due.shorter(c, "abab");
        c.pool();
        Due.same("shorter", Due.all(c), ahead);
    }

    private static void by() {
        Due.of(TWO, "BY is asked by DAY by 100 (rest): a THING can be said, if that is BY or less.");
        ClockForTalk c = Due.town("0:99;0:99", "ab3-0=1;ab3-1=1;ab3-98=1;ab3-99=1");
        int[] days = {0, 1, 97, 1, 1, 1};
        int[] open = {15, 14, 12, 8, 15, 14};
        for (int i = 1; i < days.length; i++) {
            c.days(days[i]);
            Due.is("DAY " + c.count(2), c.count(5), open[i]);
        }
        Due.is("DAY 101: BY 0 is too late", c.say(0, 1), -3);
        Due.is("DAY 101: BY 1 is not", c.say(1, 1), 1);
        ClockForTalk d = Due.town("0:99;0:99", "ab3-98=1;ab3-99=1");
        Due.is("DAY 0", d.count(5), 3);
        d.days(98);
        Due.is("DAY 98 is BY 98", d.count(5), 3);
        d.days(1);
        Due.is("DAY 99: BY 98 is too late", d.say(0, 1), -3);
        Due.is("DAY 99: BY 99 is not", d.say(1, 1), 1);
    }

    private static void refusedNumbers() {
        Due.of(TWO, "Refused calls answer NONE, or false, and change nothing but THE TEXT");
        int most = Integer.MAX_VALUE;
        int least = Integer.MIN_VALUE;
        int[] noPerson = {-1, 3, 6, 31, 32, most, least};
        for (int p : noPerson) {
            Due.refused("move(" + p + ", 1)", -1, c -> c.move(p, 1));
            Due.refused("give(" + p + ", 0, 1)", -1, c -> c.give(p, 0, 1));
            Due.refused("give(0, " + p + ", 1)", -1, c -> c.give(0, p, 1));
            Due.refused("lend(" + p + ", 0, 1, 9)", -1, c -> c.lend(p, 0, 1, 9));
            Due.refused("lend(0, " + p + ", 1, 9)", -1, c -> c.lend(0, p, 1, 9));
            Due.refused("best(" + p + ")", -1, c -> c.best(p));
            Due.refused("lacks(" + p + ")", -1, c -> c.lacks(p));
            Due.refused("relay(" + p + ", 0, 1)", -1, c -> c.relay(p, 0, 1));
            Due.refused("relay(0, " + p + ", 1)", -1, c -> c.relay(0, p, 1));
            Due.refused("relay(" + p + ", " + p + ", 1)", -1, c -> c.relay(p, p, 1));
            Due.refused("criers(" + p + ", 1, 1)", -1, c -> c.criers(p, 1, 1));
            Due.refused("read(" + p + ", 5)", -1, c -> c.read(p, 5));
            Due.refused("spoke(" + p + ")", -1, c -> c.spoke(p));
            Due.refused("run(" + p + ")", -1, c -> c.run(p));
        }
        int[] noThing = {-1, 4, 8, 31, 32, most, least};
        for (int t : noThing) {
            Due.refused("cost(" + t + ", 0)", -1, c -> c.cost(t, 0));
            Due.refused("say(" + t + ", 0)", -1, c -> c.say(t, 0));
        }
        int[] noWay = {-1, 4, 32, most, least};
        for (int w : noWay) {
            Due.refused("cost(2, " + w + ")", -1, c -> c.cost(2, w));
            Due.refused("say(2, " + w + ")", -1, c -> c.say(2, w));
        }
        int[] noNumber = {-1, 2, 32, most, least};
        for (int i : noNumber) {
            Due.refusedFalse("keep(" + i + ")", c -> c.keep(i));
            Due.refusedFalse("again(" + i + ")", c -> c.again(i));
        }
        Due.refusedFalse("again(1), which is not kept", c -> c.again(1));
        Due.refusedFalse("end(3)", c -> c.end(3));
        Due.refusedFalse("end(-1)", c -> c.end(-1));
        Due.refused("count(12)", -1, c -> c.count(12));
        Due.refused("count(-1)", -1, c -> c.count(-1));
        Due.refused("undo()", -1, new ClockForTalk(), c -> c.undo());
        ClockForTalk full = Due.busy();
        full.end(0);
        Due.tell(full, Due.times("x", 80));
        Due.refused("sign(0), which leaves THE TEXT, for it does not read it", -1, full, c -> c.sign(0));
    }

    private static void refusedTexts() {
        Due.of(TWO, ", which a call that can read it empties, whatever it answers.");
        String[] texts = {"x", "\u00ff", "\u0000", Due.times("z", 80)};
        for (String text : texts) {
            Due.refusedText("people()", text, -1, c -> c.people());
            Due.refusedText("things()", text, -1, c -> c.things());
            Due.refusedText("rule()", text, -1, c -> c.rule());
            Due.refusedText("talk()", text, -1, c -> c.talk());
            Due.refusedText("grammar()", text, -1, c -> c.grammar());
            Due.refusedText("shorter()", text, -1, c -> c.shorter());
            Due.refusedText("becomes()", text, -1, c -> c.becomes());
            Due.refusedText("rate()", text, -10000, c -> c.rate());
        }
        ClockForTalk c = Due.busy();
        c.end(0);
        Due.tell(c, "1:1").people();
        Due.is("people() that is not refused", c.count(11), 0);
        Due.tell(c, "ab1-1=1").things();
        Due.is("things() that is not refused", c.count(11), 0);
        Due.tell(c, "l").rule();
        Due.is("rule() that is not refused", c.count(11), 0);
        Due.tell(c, "d1").talk();
        Due.is("talk() that is not refused", c.count(11), 0);
        Due.tell(c, "b9").talk();
        Due.is("talk() of which nothing could be done", c.count(11), 0);
        Due.tell(c, "ab>c").grammar();
        Due.is("grammar() that is not refused", c.count(11), 0);
        Due.tell(c, "ab").shorter();
        Due.is("shorter() that is not refused", c.count(11), 0);
        Due.tell(c, "ab").becomes();
        Due.is("becomes() that is not refused", c.count(11), 0);
        Due.tell(c, "l").rate();
        Due.is("rate() that is not refused", c.count(11), 0);
        Due.tell(c, "zz");
        c.best(0);
        c.say(2, 0);
        c.years(1, 1);
        Due.is("calls that can't read it leave it", c.count(11), 2);
    }

    private static void noneFirst() {
        Due.of(TWO, "NONE is asked ahead of other answers below 0 (what a TEXT tells wrongly aside).");
        Due.refused("cost(1, 4), which is not heard", -1, c -> c.cost(1, 4));
        Due.refused("say(0, 4), which was SAID", -1, c -> c.say(0, 4));
        Due.refused("say(1, -1), which is too late", -1, c -> c.say(1, -1));
        Due.refused("give(1, 1, 99), who has less", -1, c -> c.give(1, 1, 99));
        Due.refused("lend(1, 1, 99, 0), another day, less", -1, c -> c.lend(1, 1, 99, 0));
        Due.refused("sheet(4, -1, 0, 0)", -1, c -> c.sheet(4, -1, 0, 0));
        Due.refused("sheet(3, 7, 0, 0), a missing one", -1, c -> c.sheet(3, 7, 0, 0));
        Due.refused("gifts(17), of which one was SAID", -1, c -> c.gifts(17));
        Due.refused("relay(1, 3, 99)", -1, c -> c.relay(1, 3, 99));
        Due.refused("relay(1, 2, 100)", -1, c -> c.relay(1, 2, 100));
        Due.refused("criers(1, 12, 99)", -1, c -> c.criers(1, 12, 99));
        Due.refused("enough(61, 1)", -1, c -> c.enough(61, 1));
        Due.refused("spoke(3), not read either", -1, c -> c.spoke(3));
        // A text's fault is not asked behind: -1 is the sign at 0 here.
        Due.refusedText("people()", "x", -1, c -> c.people());
        Due.refusedText("people()", "1x", -2, c -> c.people());
    }

    private static void rowStays() {
        Due.of(TWO, "The ROW stays with NONE and with each number below 0 that tells why there is no answer (-2, -3 ..)");
        Due.refused("cost(3, 2)", -2, c -> c.cost(3, 2));
        Due.refused("say(0, 1)", -2, c -> c.say(0, 1));
        Due.refused("say(1, 3)", -3, c -> c.say(1, 3));
        Due.refused("say(3, 2)", -4, c -> c.say(3, 2));
        Due.refused("say(2, 3)", -5, c -> c.say(2, 3));
        Due.refused("give(1, 0, 16)", -2, c -> c.give(1, 0, 16));
        Due.refused("lend(1, 0, 16, 7)", -2, c -> c.lend(1, 0, 16, 7));
        Due.refused("lend(1, 0, 1, 6)", -4, c -> c.lend(1, 0, 1, 6));
        Due.refused("sheet(0, -1, 5, 5)", -2, c -> c.sheet(0, -1, 5, 5));
        Due.refused("gifts(1)", -2, c -> c.gifts(1));
        Due.refused("mute()", -2, c -> c.mute());
        Due.refused("relay(1, 2, 30)", -2, c -> c.relay(1, 2, 30));
        Due.refused("criers(1, 4, 60)", -2, c -> c.criers(1, 4, 60));
        Due.refused("enough(60, 1)", -2, c -> c.enough(60, 1));
        Due.refused("spoke(0)", -2, c -> c.spoke(0));
        ClockForTalk read = Due.busy();
        read.read(0, 1);
        read.read(2, 1);
        Due.refused("look(), when all were read", -2, read, c -> c.look());
        ClockForTalk six = Due.busy();
        for (int i = 2; i < 6; i++) six.lend(2, 0, 1, 99);
        Due.refused("lend(), when 6 were made", -3, six, c -> c.lend(2, 0, 1, 99));
        ClockForTalk missing = Due.busy();
        Due.is("sheet(3, ..)", missing.sheet(3, 3, 5, 5), -3);
        Due.row("sheet(3, ..) changes CLOCKS, not the ROW", missing, 12, 63);

        Due.of(TWO, "a number below 0 that is meant as such (below 0, too) comes with its ROW.");
        ClockForTalk c = Due.town("0:40;0:0", "ab9-9=1;ab9-9=1");
        Due.is("rate() of -2", Due.rate(c, "999"), -2);
        Due.row("rate() of -2", c, 0, 2);
        Due.is("rate() of -1", Due.rate(c, "21"), -1);
        Due.row("rate() of -1", c, 1, 2);
    }

    private static void headings() {
        Due.of(TWO, "(each THING by the least COST that is heard, by the CLOCK as it is now; today)");
        ClockForTalk c = Due.town("0:20;1:9;0:0", "ab9-9=5;ab9-9=5;ac9-1=9");
        c.days(2);
        Due.rule(c, "c/2-(w=3)+99*(w<2)");
        // Shouted is the cheapest: 9 each, by the 20 that a has, though it would have 11 behind the first.
        Due.is("best()", c.best(0), 10);
        Due.row("best()", c, 3, 18);
        Due.is("lacks()", c.lacks(0), 0);
        Due.row("lacks()", c, 18, 2);
        Due.is("pool()", c.pool(), 10);
        Due.is("gifts()", c.gifts(3), 0);
        Due.is("gifts() of one that is too late today", c.gifts(4), -2);
        Due.rule(c, "21+w");
        Due.is("mute(): whispered costs the least", c.mute(), 0);
        Due.row("mute()", c, 21, 20);
        c.move(1, 2);
        c.mute();
        Due.row("mute(): it is not heard two STEPS apart, sung is", c, 22, 20);

        Due.of(TWO, "(a word of n SECONDS, n 1 .. 99, as a THING of who speaks; in relay() each tells the next one by the WAY that is heard and costs the least)");
        ClockForTalk w = Due.town("0:99;2:99;99:99", "");
        int[] wrong = {0, 100, -1, Integer.MAX_VALUE, Integer.MIN_VALUE};
        for (int n : wrong) {
            Due.refused("relay() of n " + n, -1, x -> x.relay(0, 1, n));
            Due.refused("relay() to the same, n " + n, -1, x -> x.relay(0, 0, n));
            Due.refused("criers() of n " + n, -1, x -> x.criers(0, 1, n));
        }
        Due.is("n 1, sung", w.relay(0, 1, 1), 1);
        Due.is("n 99, sung", w.relay(0, 1, 99), 33);
        Due.is("criers() of n 1", w.criers(0, 2, 1), 1);
        Due.is("criers() of n 99", w.criers(0, 2, 99), 1);
        Due.rule(w, "l+s+99*(w=1)");
        Due.is("loud costs less than sung", w.relay(0, 1, 5), 7);
        Due.rule(w, "l+s+99*(w>0)");
        Due.is("whispered is not heard", w.relay(0, 1, 5), -2);
        w.move(1, 1);
        Due.is("whispered is heard one STEP apart", w.relay(0, 1, 5), 6);
    }
}
