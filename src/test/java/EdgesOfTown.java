/** Promises 1 to 11, sentence by sentence. */
final class EdgesOfTown {
    private EdgesOfTown() { }

    static void run() {
        newObject();
        sign();
        end();
        people();
        peopleWrong();
        things();
        thingsWrong();
        rule();
        person();
        thing();
        loan();
        move();
        sheet();
        sheetRefused();
    }

    private static void newObject() {
        Due.of("Promise 1", "Nobody, nothing to say.");
        ClockForTalk c = new ClockForTalk();
        for (int what = 0; what <= 11; what++) Due.is("count(" + what + ")", c.count(what), 0);
        Due.throwsNoSuch("person(0, 0)", () -> c.person(0, 0));
        Due.throwsNoSuch("thing(0, 0)", () -> c.thing(0, 0));
        Due.throwsNoSuch("loan(0, 0)", () -> c.loan(0, 0));
        Due.throwsNoSuch("row(0)", () -> c.row(0));
        Due.is("move", c.move(0, 0), -1);
        Due.is("cost", c.cost(0, 0), -1);
        Due.is("say", c.say(0, 0), -1);
        Due.is("give", c.give(0, 1, 1), -1);
        Due.is("lend", c.lend(0, 1, 1, 1), -1);
        Due.is("undo", c.undo(), -1);
        Due.is("best", c.best(0), -1);
        Due.is("lacks", c.lacks(0), -1);
        Due.is("gifts(1)", c.gifts(1), -1);
        Due.is("mute", c.mute(), -2);
        Due.is("relay", c.relay(0, 0, 1), -1);
        Due.is("criers", c.criers(0, 0, 1), -1);
        Due.is("read", c.read(0, 0), -1);
        Due.is("spoke", c.spoke(0), -1);
        Due.is("look", c.look(), -2);
        Due.is("run", c.run(0), -1);
        Due.is("again", c.again(0), false);
        Due.is("nothing of all this tells a ROW", c.count(10), 0);
        Due.is("sheet", c.sheet(2, 6, 1, 1), 0);
        Due.is("forget", c.forget(), 0);
        Due.is("pool", c.pool(), 0);
        Due.row("pool", c, 0, 0);
        Due.is("gifts(0)", c.gifts(0), 0);
        Due.row("gifts(0)", c, 0);
        Due.is("years", c.years(0, 60), 0);
        Due.row("years", c, 0, 0);
        Due.is("talk", c.talk(), 0);
        Due.row("talk", c, 0, 0);
        Due.is("rate", c.rate(), 0);
        Due.row("rate", c, 0, 0);
        Due.is("another object has nothing of it", new ClockForTalk().count(10), 0);
        Due.is("NONE", ClockForTalk.NONE, -1);
    }

    private static void sign() {
        Due.of("Promise 2", "Four signs come behind THE TEXT, of v the highest byte first: how many it has.");
        ClockForTalk c = new ClockForTalk();
        Due.is("9:12", c.sign(0x393a3132), 4);
        Due.is(";8:3", c.sign(0x3b383a33), 8);
        Due.is("people", c.people(), 2);
        Due.is("STEP of the first", c.person(0, 0), 9);
        Due.is("YEARLY of the first", c.person(0, 2), 12);
        Due.is("STEP of the second", c.person(1, 0), 8);
        Due.is("it begins anew then", c.sign(0), 4);
        Due.is("a byte of 0 is a sign", c.people(), -1);
        Due.is("bytes above 127 are signs", c.sign(0xb5b5b5b5), 4);
        Due.is("of which none can stand", c.people(), -1);
        // 0xb5 by its sign bit cut off is 5: it must not be read as one.
        Due.is("5:5 behind 128 more", c.sign(0xb5baB500), 4);
        Due.is("none can stand", c.people(), -1);

        Due.of("Promise 2", "Refused: there would be more than 80.");
        for (int i = 1; i <= 20; i++) Due.is("sign " + i, c.sign(0x353a353b), 4 * i);
        Due.is("84", c.sign(0x353a353b), -1);
        Due.is("80 are there still", c.count(11), 80);
        for (int n = 79; n >= 77; n--) {
            Due.is("end(" + n + ")", c.end(n), true);
            Due.is(n + " and four", c.sign(0), -1);
            Due.is(n + " are there still", c.count(11), n);
        }
        c.end(76);
        Due.is("76 and four", c.sign(0), 80);
    }

    private static void end() {
        Due.of("Promise 3", "THE TEXT has its first n signs alone: true");
        ClockForTalk c = Due.tell(new ClockForTalk(), "5:40;6:10");
        Due.is("all of them", c.end(9), true);
        Due.is("count(11)", c.count(11), 9);
        Due.is("the first 3", c.end(3), true);
        Due.is("count(11) then", c.count(11), 3);
        Due.is("they are told", c.people(), 1);
        Due.is("YEARLY of one digit", c.person(0, 2), 4);
        Due.is("0 of none", c.end(0), true);
        Due.tell(c, "zz");
        Due.is("0 of two", c.end(0), true);
        Due.is("none are left", c.count(11), 0);
        // What was cut off does not come back.
        Due.tell(c, "6:10").end(2);
        Due.is("cut behind the :", c.people(), -3);
        Due.tell(c, "ab>c").end(1);
        Due.is("cut behind the first letter", c.grammar(), -2);
        Due.tell(c, "ab>c").end(2);
        Due.is("cut behind the second", c.grammar(), -3);
        Due.tell(c, "abc").end(1);
        Due.is("a wording cut behind its first letter", c.shorter(), 1);
        Due.tell(c, "1+w").end(1);
        Due.is("a RULE cut behind its first sign", c.rule(), 0);

        Due.of("Promise 3", "false if it has not so many, or n is below 0");
        ClockForTalk d = Due.tell(new ClockForTalk(), "abcde");
        int[] wrong = {6, 8, 80, 81, Integer.MAX_VALUE, -1, -5, Integer.MIN_VALUE};
        for (int n : wrong) {
            Due.is("end(" + n + ")", d.end(n), false);
            Due.is("the signs stay", d.count(11), 5);
        }
        Due.is("end(1) of none", new ClockForTalk().end(1), false);
        Due.is("end(-1) of none", new ClockForTalk().end(-1), false);
        Due.tell(d, "").end(0);
        Due.tell(d, Due.times("x", 80));
        Due.is("end(81) of 80", d.end(81), false);
        Due.is("end(80) of 80", d.end(80), true);
    }

    private static void peopleText(String text, int due) {
        Due.refusedText("people()", text, due, c -> c.people());
    }

    private static void people() {
        Due.of("Promise 4", "THE TEXT tells of PEOPLE (an empty one: nothing): how many LINES.");
        ClockForTalk c = new ClockForTalk();
        Due.is("an empty one", c.people(), 0);
        Due.is("nobody", c.count(0), 0);
        Due.is("one", Due.people(c, "1:1"), 1);
        Due.is("two more", Due.people(c, "2:2;3:3"), 2);
        Due.is("three more", Due.people(c, "4:4;5:5;6:6"), 3);
        Due.is("count(0)", c.count(0), 6);
        for (int i = 0; i < 6; i++) Due.is("STEP of " + i, c.person(i, 0), i + 1);
        Due.is("an empty one, when there is no room", c.people(), 0);
        Due.is("six at once", Due.people(new ClockForTalk(), Due.times("99:999;", 5) + "99:999"), 6);

        Due.of("Promise 4", "the first sign of a LINE for which there is no room");
        Due.refusedText("people()", "1:1", -1, c, x -> x.people());
        Due.refusedText("people()", "x", -1, c, x -> x.people());
        Due.refusedText("people()", ";", -1, c, x -> x.people());
        ClockForTalk five = Due.town("1:1;1:1;1:1;1:1;1:1", "");
        Due.refusedText("people()", "2:2;3:3", -5, five, x -> x.people());
        Due.refusedText("people()", "22:222;3:3;4:4", -8, five, x -> x.people());
        Due.refusedText("people()", "2:2;", -5, five, x -> x.people());
        Due.refusedText("people()", "2:2;x", -5, five, x -> x.people());
        Due.refusedText("people()", "2:2x3:3", -4, five, x -> x.people());
        Due.is("seven at once", Due.people(new ClockForTalk(), Due.times("1:1;", 6) + "1:1"), -25);
        Due.is("and of six nobody came", five.count(0), 5);
        Due.is("one for whom there is room", Due.people(five, "2:2"), 1);
    }

    private static void peopleWrong() {
        Due.of("Promise 4", "-1 - p: the sign at p can't stand there");
        peopleText("x", -1);
        peopleText(":5", -1);
        peopleText(";5:5", -1);
        peopleText("-5:5", -1);
        peopleText("5;5", -2);
        peopleText("55;5", -3);
        peopleText("555:5", -3);
        peopleText("5 :5", -2);
        peopleText("5::5", -3);
        peopleText("5:;5:5", -3);
        peopleText("5:-5", -3);
        peopleText("5:5,6:6", -4);
        peopleText("5:5555", -6);
        peopleText("5:5;;5:5", -5);
        peopleText("5:5;6:6;7:x", -11);
        peopleText("/:5", -1);
        peopleText("5:5\u0000", -4);

        Due.of("Promise 4", "its end, if it ends too early");
        peopleText("5", -2);
        peopleText("55", -3);
        peopleText("5:", -3);
        peopleText("55:", -4);
        peopleText("5:5;", -5);
        peopleText("5:555;", -7);
        peopleText("5:5;6", -6);
        peopleText("5:5;6:", -7);

        Due.of("Promise 4", "76, if it has more and the first 76 could go on or end");
        // Six LINES have 41 signs at most, so more than 76 fail ahead of the 76th; things() can get there.
        ClockForTalk c = new ClockForTalk();
        Due.is("the longest six, and a LINE more", Due.people(c, Due.times("99:999;", 6) + "9:9"), -43);
        Due.is("eighty signs", Due.people(c, Due.times("9:9;", 20)), -25);
        Due.is("eighty digits", Due.people(c, Due.times("9", 80)), -3);
        ClockForTalk t = Due.town("0:1;1:1", "");
        Due.is("of things(), 77 signs of which 76 could end", Due.things(t, Due.times("ab10-10=10;", 7)), -77);
        Due.is("80 signs of which 76 could go on", Due.things(t, "ab1-1=1;" + Due.times("ab10-10=10;", 6) + "ab1-1="), -77);

        Due.of("Promise 4", "Nothing of it comes, if a LINE can't.");
        peopleText("1:1;2:2;x", -9);
        peopleText("1:1;2:2;3:3;4:4", -13);
        peopleText("1:1;2", -6);
    }

    private static void thingsText(String text, int due) {
        Due.refusedText("things()", text, due, c -> c.things());
    }

    private static void things() {
        Due.of("Promise 5", "THE TEXT tells of THINGS (an empty one: nothing): how many LINES.");
        ClockForTalk c = Due.town("0:10;5:20", "");
        Due.is("an empty one", c.things(), 0);
        Due.is("nothing", c.count(1), 0);
        Due.is("one", Due.things(c, "ab1-1=1"), 1);
        Due.is("two more", Due.things(c, "ba2-2=2;ab3-3=3"), 2);
        Due.is("five more", Due.things(c, "ba4-4=4;ab5-5=5;ba6-6=6;ab7-7=7;ba8-8=8"), 5);
        for (int i = 0; i < 8; i++) Due.is("SECONDS of " + i, c.thing(i, 2), i + 1);
        Due.is("an empty one, when there is no room", c.things(), 0);
        Due.is("an empty one, when nobody is there", new ClockForTalk().things(), 0);

        Due.of("Promise 5", "-1 - p: likewise");
        Due.refusedText("things()", "ab1-1=1", -1, c, x -> x.things());
        Due.refusedText("things()", "x", -1, c, x -> x.things());
        ClockForTalk seven = Due.town("0:1;1:1", Due.times("ab1-1=1;", 6) + "ab1-1=1");
        Due.refusedText("things()", "ab1-1=1;ab1-1=1", -9, seven, x -> x.things());
        Due.refusedText("things()", "ab1-1=1;", -9, seven, x -> x.things());
        Due.refusedText("things()", "ab11-11=11;x", -12, seven, x -> x.things());
        Due.is("one for which there is room", Due.things(seven, "ab1-1=1"), 1);
        ClockForTalk t = Due.town("0:1;1:1", "");
        Due.is("nine at once", Due.things(t, Due.times("ab1-1=1;", 8) + "ab1-1=1"), -65);
        Due.is("eight with a ; behind", Due.things(t, Due.times("ab1-1=1;", 8)), -65);
        Due.is("the eighth ends at 76", Due.things(Due.town("0:1;1:1", ""), "ab1-1=1;ab1-1=1;ab1-1=1;" + Due.times("ab10-1=10;", 3) + "ab1-10=10;ab10-10=10"), 8);
        String long76 = Due.times("ab10-10=10;", 6) + "ab10-10=10";
        Due.is("77, of which 76 could end", Due.things(t, long76 + ";"), -77);
        Due.is("77, the last can't stand", Due.things(t, long76 + "x"), -77);
        Due.is("80, of which 76 could end", Due.things(t, long76 + ";ab1"), -77);
        Due.is("80, of which 76 could go on", Due.things(t, "ab1-1=1;" + Due.times("ab10-10=10;", 6) + "ab1-1="), -77);
        // The 76th sign is the first digit of SECONDS: what stands behind it does not count, so it could go on by another.
        String upTo75 = Due.times("ab10-10=10;", 3) + Due.times("ab1-10=10;", 4) + "ab";
        Due.is("77, of which 76 end with 0 of SECONDS", Due.things(t, upTo75 + "0-"), -77);
        Due.is("80, of which 76 end with 0 of SECONDS, BY behind", Due.things(t, upTo75 + "0-1=1"), -77);
        Due.is("80, of which 76 end with 0 of SECONDS, a 0 behind", Due.things(t, upTo75 + "00-1="), -77);
        Due.is("80, of which 76 end with 0 of SECONDS, a 5 behind", Due.things(t, upTo75 + "05-1="), -77);
        Due.is("77, of which 76 end with 0 of SECONDS, a wrong sign behind", Due.things(t, upTo75 + "0x"), -77);
        Due.is("76 that end with 0 of SECONDS", Due.things(t, upTo75 + "0"), -76);
        String upTo74 = Due.times("ab10-10=10;", 2) + Due.times("ab1-10=10;", 5) + "ab";
        Due.is("77, of which 76 end with 00 of SECONDS", Due.things(t, upTo74 + "00-"), -76);
        Due.is("77, the 75th is SECONDS of 0", Due.things(t, upTo74 + "0-1"), -75);
        Due.is("80, the 76th can't stand", Due.things(t, long76.substring(0, 75) + "x;abc"), -76);
        Due.is("80, the 75th can't stand", Due.things(t, long76.substring(0, 74) + "x1;abc"), -75);
        Due.is("nothing came", t.count(1), 0);
    }

    private static void thingsWrong() {
        Due.of("Promise 5", "-1 - p: likewise");
        // Of LINES: ab5-5=5, the sign ahead, behind, or in place of each.
        thingsText("5b5-5=5", -1);
        thingsText("Ab5-5=5", -1);
        thingsText("a5-5=5", -2);
        thingsText("aB5-5=5", -2);
        thingsText("abc5-5=5", -3);
        thingsText("ab-5=5", -3);
        thingsText("ab555-5=5", -5);
        thingsText("ab5=5=5", -4);
        thingsText("ab55=5=5", -5);
        thingsText("ab5-=5", -5);
        thingsText("ab5--5=5", -5);
        thingsText("ab5-555=5", -7);
        thingsText("ab5-5-5", -6);
        thingsText("ab5-5=x", -7);
        thingsText("ab5-5==5", -7);
        thingsText("ab5-5=555", -9);
        thingsText("ab5-5=5,", -8);
        thingsText("ab5-5=5;;", -9);
        thingsText("ab5-5=5;x", -9);
        thingsText(";ab5-5=5", -1);
        thingsText("a", -2);
        thingsText("ab", -3);
        thingsText("ab5", -4);
        thingsText("ab55", -5);
        thingsText("ab5-", -5);
        thingsText("ab5-5", -6);
        thingsText("ab5-55", -7);
        thingsText("ab5-5=", -7);
        thingsText("ab5-5=5;", -9);
        thingsText("ab5-5=5;a", -10);

        Due.of("Promise 5", "(a letter of nobody, or like the one ahead: at it; SECONDS of 0: at the last digit)");
        thingsText("db5-5=5", -1);
        thingsText("gb5-5=5", -1);
        thingsText("ad5-5=5", -2);
        thingsText("ag5-5=5", -2);
        thingsText("aa5-5=5", -2);
        thingsText("cc5-5=5", -2);
        thingsText("ab5-5=5;bb5-5=5", -10);
        thingsText("ab5-5=5;bd5-5=5", -10);
        thingsText("ab0-5=5", -3);
        thingsText("ab00-5=5", -4);
        thingsText("ab000-5=5", -4);
        thingsText("ab0=5=5", -3);
        thingsText("ab00", -4);
        thingsText("ab5-5=5;ba0-5=5", -11);
        thingsText("ab5-5=5;ba00-5=5", -12);
        Due.is("nobody is there", Due.things(new ClockForTalk(), "ab5-5=5"), -1);
        Due.is("one alone", Due.things(Due.town("0:9", ""), "ab5-5=5"), -2);
        Due.is("f of six", Due.things(Due.town("0:9;0:9;0:9;0:9;0:9;0:9", ""), "fe5-5=5;ef5-5=5"), 2);
        Due.is("BY and WORTH of 0 can be", Due.things(Due.town("0:9;0:9", ""), "ab1-0=0;ab01-00=00"), 2);
    }

    private static void rule() {
        Due.of("Promise 6", "THE TEXT is THE RULE (an empty one: none): 0.");
        ClockForTalk c = Due.town("0:99;0:9", "ab20-9=5");
        Due.is("a RULE", Due.rule(c, "l+1"), 0);
        Due.is("cost by it", c.cost(0, 0), 21);
        Due.is("another", Due.rule(c, "w"), 0);
        Due.is("cost by that alone", c.cost(0, 3), 3);
        Due.is("an empty one", c.rule(), 0);
        Due.is("cost by none", c.cost(0, 3), 40);

        Due.of("Promise 6", "-1 - p: as people() (40 signs).");
        String[] texts = {"x", "l+", "l+x", "l)", "(l", "(", "-", "1234", "l<w<s", "l,", "l;l", "((((l", "l+(w*"};
        int[] due = {-1, -3, -3, -2, -3, -2, -2, -4, -4, -2, -2, -6, -6};
        for (int i = 0; i < texts.length; i++) Due.refusedText("rule()", texts[i], due[i], d -> d.rule());
        Due.rule(c, "7");
        Due.is("40 signs", Due.rule(c, Due.times("1+", 19) + "12"), 0);
        Due.is("cost by the 40", c.cost(0, 0), 31);
        Due.is("40 signs that end too early", Due.rule(c, Due.times("1+", 20)), -41);
        Due.is("41, of which 40 could go on", Due.rule(c, Due.times("1+", 20) + "1"), -41);
        Due.is("41, of which 40 could end", Due.rule(c, Due.times("1+", 19) + "12+"), -41);
        Due.is("41, the last can't stand", Due.rule(c, Due.times("1+", 19) + "12x"), -41);
        Due.is("80, the 40th can't stand", Due.rule(c, Due.times("1+", 19) + "1x" + Due.times("1+", 20)), -40);
        Due.is("80, the 39th can't stand", Due.rule(c, Due.times("1+", 19) + "x1" + Due.times("1+", 20)), -39);
        Due.is("80 of -", Due.rule(c, Due.times("-", 80)), -41);
        Due.is("80 of (", Due.rule(c, Due.times("(", 80)), -5);
        Due.is("a refused one leaves THE RULE", c.cost(0, 0), 31);
        Due.rule(c, "");
        Due.rule(c, "x");
        Due.is("a refused one leaves none", c.cost(0, 0), 10);
    }

    private static void person() {
        Due.of("Promise 7", "Of one of PEOPLE, what 0: STEP, 1: CLOCK, 2: YEARLY, 3: SPENT (what all it said since New Year, or the beginning, cost), 4: what it OWES in all, 5: what is OWED to it, 6: LOSS.");
        ClockForTalk c = Due.busy();
        int[][] due = {{5, 31, 40, 4, 0, 5, 0}, {6, 15, 10, 0, 5, 0, 0}, {20, 100, 100, 0, 0, 0, 0}};
        for (int i = 0; i < 3; i++) {
            for (int what = 0; what < 7; what++) Due.is("person(" + i + ", " + what + ")", c.person(i, what), due[i][what]);
        }
        c.give(0, 2, 1);
        Due.is("SPENT is not by gifts", c.person(0, 3), 4);
        c.sheet(3, 0, 0, 0);
        Due.is("nor by a sheet", c.person(0, 3), 4);
        c.lend(2, 1, 1, 99);
        c.sheet(2, 3, 50, 0);
        c.lend(2, 1, 30, 99);
        c.lend(0, 1, 2, 99);
        Due.is("b OWES in all", c.person(1, 4), 37);
        Due.is("OWED to c", c.person(2, 5), 30);
        Due.is("OWED to a", c.person(0, 5), 7);
        c.sheet(3, 0, 0, 0);
        c.days(3);
        Due.is("LOSS of a by what was due on DAY 9", c.person(0, 6), 5);
        Due.is("what has ended is not OWED", c.person(0, 5), 2);
        Due.is("nor does b OWE it", c.person(1, 4), 32);
        c.days(90);
        Due.is("DAY 99: SPENT", c.person(0, 3), 4);
        Due.is("DAY 99: LOSS, 5 and 2, which was too little for a tenth", c.person(0, 6), 7);
        c.days(1);
        Due.is("New Year: SPENT", c.person(0, 3), 0);
        Due.is("New Year: LOSS stays", c.person(0, 6), 7);
        c.say(0, 1);
        Due.is("SPENT since New Year", c.person(0, 3), 4);

        Due.of("Promise 7", "NoSuchElementException: none such, another what.");
        ClockForTalk d = Due.busy();
        int[] nobody = {-1, 3, 5, 6, 32, Integer.MAX_VALUE, Integer.MIN_VALUE};
        for (int p : nobody) Due.throwsNoSuch("person(" + p + ", 0)", () -> d.person(p, 0));
        int[] wrong = {-1, 7, 8, 32, Integer.MAX_VALUE, Integer.MIN_VALUE};
        for (int what : wrong) Due.throwsNoSuch("person(0, " + what + ")", () -> d.person(0, what));
        Due.throwsNoSuch("person(3, 7)", () -> d.person(3, 7));
    }

    private static void thing() {
        Due.of("Promise 8", "Of a THING, what 0: who, 1: to whom, 2: SECONDS, 3: BY, 4: WORTH, 5: 1 if SAID, 6: how many STEPS apart they live, 7: the WAY by which it costs the least and is heard by whom it is for (of equal ones the first).");
        ClockForTalk c = Due.busy();
        int[][] due = {{0, 1, 10, 9, 5, 1, 1, 1}, {0, 2, 20, 5, 8, 0, 15, 3}, {1, 0, 9, 9, 4, 0, 1, 1}, {2, 1, 30, 50, 9, 0, 14, 3}};
        for (int i = 0; i < 4; i++) {
            for (int what = 0; what < 8; what++) Due.is("thing(" + i + ", " + what + ")", c.thing(i, what), due[i][what]);
        }
        ClockForTalk w = Due.town("0:9;0:9", "ab1-9=1;ba2-9=1");
        Due.is("1 second: whispered and sung cost 1", w.thing(0, 7), 0);
        Due.is("2 seconds, too", w.thing(1, 7), 0);
        w.move(1, 2);
        Due.is("sung is the first that is heard then", w.thing(0, 7), 1);
        w.move(1, 4);
        Due.is("loud", w.thing(0, 7), 2);
        w.move(1, 10);
        Due.is("shouted", w.thing(0, 7), 3);
        w.move(1, 99);
        Due.is("99 STEPS apart", w.thing(0, 6), 99);
        Due.is("shouted is heard", w.thing(0, 7), 3);
        w.move(1, 0);
        Due.rule(w, "999-w");
        Due.is("the last costs the least", w.thing(0, 7), 3);
        Due.rule(w, "999+w");
        Due.is("all cost 999", w.thing(0, 7), 0);
        Due.rule(w, "(w=0)+(w=3)");
        Due.is("sung and loud are equal", w.thing(0, 7), 1);

        Due.of("Promise 8", "NoSuchElementException: likewise.");
        ClockForTalk d = Due.busy();
        int[] none = {-1, 4, 7, 8, 32, Integer.MAX_VALUE, Integer.MIN_VALUE};
        for (int t : none) Due.throwsNoSuch("thing(" + t + ", 0)", () -> d.thing(t, 0));
        int[] wrong = {-1, 8, 9, 32, Integer.MAX_VALUE, Integer.MIN_VALUE};
        for (int what : wrong) Due.throwsNoSuch("thing(0, " + what + ")", () -> d.thing(0, what));
    }

    private static void loan() {
        Due.of("Promise 9", "Of a LOAN, what 0: who lent, 1: to whom, 2: OWED, 3: DUE, 4: 1 if it has ended.");
        ClockForTalk c = Due.busy();
        int[][] due = {{2, 0, 20, 3, 1}, {0, 1, 5, 9, 0}};
        for (int i = 0; i < 2; i++) {
            for (int what = 0; what < 5; what++) Due.is("loan(" + i + ", " + what + ")", c.loan(i, what), due[i][what]);
        }

        Due.of("Promise 9", "NoSuchElementException: likewise.");
        int[] none = {-1, 2, 5, 6, 32, Integer.MAX_VALUE, Integer.MIN_VALUE};
        for (int l : none) Due.throwsNoSuch("loan(" + l + ", 0)", () -> c.loan(l, 0));
        int[] wrong = {-1, 5, 6, 32, Integer.MAX_VALUE, Integer.MIN_VALUE};
        for (int what : wrong) Due.throwsNoSuch("loan(0, " + what + ")", () -> c.loan(0, what));
        for (int i = 0; i < 4; i++) c.undo();
        Due.throwsNoSuch("loan(0, 0), undone", () -> c.loan(0, 0));
    }

    private static void move() {
        Due.of("Promise 10", "One moves to a STEP (0 .. 99): where it lived.");
        ClockForTalk c = Due.town("7:1;0:1;99:1", "ac1-9=1");
        Due.is("to 0", c.move(0, 0), 7);
        Due.is("to 99", c.move(0, 99), 0);
        Due.is("to where it lives", c.move(0, 99), 99);
        Due.is("the last one", c.move(2, 1), 99);
        Due.is("STEP", c.person(2, 0), 1);
        Due.is("the others stay", c.person(1, 0), 0);
        Due.is("STEPS apart then", c.thing(0, 6), 98);

        Due.of("Promise 10", "Refused: others.");
        int[] wrong = {-1, 100, 127, 256, Integer.MAX_VALUE, Integer.MIN_VALUE};
        for (int step : wrong) Due.refused("move(0, " + step + ")", -1, d -> d.move(0, step));
        int[] nobody = {-1, 3, 6, Integer.MAX_VALUE, Integer.MIN_VALUE};
        for (int p : nobody) Due.refused("move(" + p + ", 5)", -1, d -> d.move(p, 5));
    }

    private static void clocks(String call, ClockForTalk c, int... due) {
        for (int i = 0; i < due.length; i++) Due.is(call + ", CLOCK of " + i, c.person(i, 1), due[i]);
    }

    private static void sheet() {
        Due.of("Promise 11", "CLOCKS of PEOPLE 0, 1, .., as a sheet tells them: bytes (kind 0), shorts (1), ints (2) of n entries f, f + step, ..");
        ClockForTalk c = Due.town("1:10;2:20;3:30", "");
        for (int kind = 0; kind < 3; kind++) {
            Due.is("kind " + kind, c.sheet(kind, 3, 5, 7), 36);
            clocks("kind " + kind, c, 5, 12, 19);
            Due.is("kind " + kind + ", down", c.sheet(kind, 3, 9, -2), 21);
        }
        Due.is("YEARLY stays", c.person(0, 2), 10);
        Due.is("ints wrap around", c.sheet(2, 3, Integer.MAX_VALUE - 1, 1), 9999 + 9999);
        clocks("ints wrap around", c, 9999, 9999, 0);
        Due.is("a step that wraps around", c.sheet(2, 3, 7, Integer.MIN_VALUE), 14);
        clocks("a step that wraps around", c, 7, 0, 7);

        Due.of("Promise 11", "(of bytes, shorts the lowest bits, with their sign; put to 0 .. 9999)");
        Due.is("127 and 128 as bytes", c.sheet(0, 2, 127, 1), 127);
        Due.is("255 and 256 as bytes", c.sheet(0, 3, 255, 1), 1);
        clocks("255, 256, 257 as bytes", c, 0, 0, 1);
        Due.is("-256 and -255 as bytes", c.sheet(0, 2, -256, 1), 1);
        Due.is("-129 as a byte", c.sheet(0, 1, -129, 1), 127);
        Due.is("32767 and 32768 as shorts", c.sheet(1, 2, 32767, 1), 9999);
        Due.is("65535, 65536, 65537 as shorts", c.sheet(1, 3, 65535, 1), 1);
        Due.is("128 as a short", c.sheet(1, 1, 128, 1), 128);
        Due.is("9998, 9999, 10000 as shorts", c.sheet(1, 3, 9998, 1), 9998 + 9999 + 9999);
        Due.is("-1, 0, 1 as ints", c.sheet(2, 3, -1, 1), 1);
        Due.is("9999 and 10000 as ints", c.sheet(2, 2, 9999, 1), 9999 + 9999);
        Due.is("65536 as an int", c.sheet(2, 1, 65536, 1), 9999);

        Due.of("Promise 11", ", or a missing one (3): those behind it have 0: the sum of all that there are (entries beyond them are left aside).");
        Due.is("one entry", c.sheet(2, 1, 5, 5), 5);
        clocks("one entry", c, 5, 0, 0);
        Due.is("no entry", c.sheet(2, 0, 5, 5), 0);
        clocks("no entry", c, 0, 0, 0);
        Due.is("six entries", c.sheet(2, 6, 5, 5), 30);
        clocks("six entries", c, 5, 10, 15);
        Due.is("one who comes has its YEARLY", Due.people(c, "4:40"), 1);
        clocks("one who comes", c, 5, 10, 15, 40);
        Due.is("of nobody", new ClockForTalk().sheet(2, 6, 5, 5), 0);
    }

    private static void sheetRefused() {
        Due.of("Promise 11", "-2: n below 0 (of kinds 0 .. 2; nothing changes)");
        int[] below = {-1, -6, Integer.MIN_VALUE};
        for (int n : below) {
            for (int kind = 0; kind < 3; kind++) {
                int k = kind;
                Due.refused("sheet(" + k + ", " + n + ", 5, 5)", -2, c -> c.sheet(k, n, 5, 5));
            }
        }

        Due.of("Promise 11", "-3: missing (all 0)");
        int[] any = {0, 3, 6, -1, Integer.MIN_VALUE};
        for (int n : any) {
            ClockForTalk c = Due.busy();
            Due.is("sheet(3, " + n + ", 5, 5)", c.sheet(3, n, 5, 5), -3);
            clocks("sheet(3, " + n + ", 5, 5)", c, 0, 0, 0);
        }

        Due.of("Promise 11", "NONE: another kind, n above 6 (these first).");
        int[] kinds = {-1, 4, 32, Integer.MAX_VALUE, Integer.MIN_VALUE};
        for (int kind : kinds) {
            Due.refused("sheet(" + kind + ", 3, 5, 5)", -1, c -> c.sheet(kind, 3, 5, 5));
            Due.refused("sheet(" + kind + ", -1, 5, 5)", -1, c -> c.sheet(kind, -1, 5, 5));
        }
        int[] above = {7, 8, Integer.MAX_VALUE};
        for (int n : above) {
            for (int kind = 0; kind <= 3; kind++) {
                int k = kind;
                Due.refused("sheet(" + k + ", " + n + ", 5, 5)", -1, c -> c.sheet(k, n, 5, 5));
            }
        }
    }
}
