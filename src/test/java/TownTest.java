/** Promises 1 to 11: a new object, texts, people, things, rule, person, thing, loan, move, sheet. */
public final class TownTest {
    public static void main(String[] args) {
        newObject();
        signAndEnd();
        people();
        peopleLimit();
        things();
        thingsWrong();
        ruleText();
        ruleWorth();
        person();
        thing();
        loan();
        move();
        sheet();
        Due.finish();
    }

    private static void newObject() {
        Due.of("Promise 1", "Nobody, nothing to say.");
        ClockForTalk c = new ClockForTalk();
        for (int i = 0; i <= 11; i++) Due.is("1: count(" + i + ") of a new object", c.count(i), 0);
        Due.throwsNoSuch("1: person(0, 0)", () -> c.person(0, 0));
        Due.throwsNoSuch("1: thing(0, 0)", () -> c.thing(0, 0));
        Due.throwsNoSuch("1: loan(0, 0)", () -> c.loan(0, 0));
        Due.throwsNoSuch("1: row(0)", () -> c.row(0));
        Due.is("1: undo()", c.undo(), -1);
        Due.is("1: again(0)", c.again(0), false);
        Due.is("1: pool()", c.pool(), 0);
        Due.row("1: pool()", c, 0, 0);
        Due.is("1: another object has its own state", new ClockForTalk().count(10), 0);
        Due.is("1: NONE", ClockForTalk.NONE, -1);
    }

    private static void signAndEnd() {
        Due.of("Promise 2", "Four signs come behind THE TEXT, of v the highest byte first: how many it has.");
        ClockForTalk c = new ClockForTalk();
        // Highest byte first: "5:40".
        Due.is("2: sign", c.sign(0x353a3430), 4);
        Due.is("2: people told by it", c.people(), 1);
        Due.is("2: STEP", c.person(0, 0), 5);
        Due.is("2: YEARLY", c.person(0, 2), 40);
        Due.is("2: the text is empty then", c.count(11), 0);
        Due.of("Promise 2", "Refused: there would be more than 80.");
        for (int i = 1; i <= 20; i++) Due.is("2: sign " + i, c.sign(-1), 4 * i);
        Due.is("2: a twenty-first", c.sign(0x353a3430), -1);
        Due.is("2: it has 80 still", c.count(11), 80);
        Due.of("Promise 3", "false if it has not so many, or n is below 0");
        Due.is("3: end(81)", c.end(81), false);
        Due.is("3: end(-1)", c.end(-1), false);
        Due.is("3: end(MIN)", c.end(Integer.MIN_VALUE), false);
        Due.is("3: it has 80 still", c.count(11), 80);
        Due.is("3: end(80)", c.end(80), true);
        Due.is("3: end(77)", c.end(77), true);
        Due.is("2: 77 and four more are too many", c.sign(0), -1);
        Due.is("3: end(78)", c.end(78), false);
        Due.is("3: end(76)", c.end(76), true);
        Due.is("2: 76 and four more", c.sign(0), 80);
        Due.is("3: end(0)", c.end(0), true);
        Due.is("3: count", c.count(11), 0);
        Due.is("3: end(0) of none", c.end(0), true);
        Due.is("3: end(1) of none", c.end(1), false);
        Due.is("2: signs above 127 can't stand", Due.people(c, "\u00b5:5"), -1);
        Due.of("Promise 3", "THE TEXT has its first n signs alone: true");
        // Signs that were cut off are gone, though the next text would go on with them.
        ClockForTalk d = Due.town("1:1;1:1", "");
        Due.tell(d, "ab10-9=5").end(1);
        Due.is("3: cut behind the first letter", d.things(), -2);
        Due.tell(d, "ab10-9=5").end(2);
        Due.is("3: cut behind the second letter", d.things(), -3);
        Due.tell(d, "ab10-9=5").end(7);
        Due.is("3: cut behind the =", d.things(), -8);
        Due.tell(d, "5:40").end(2);
        Due.is("3: cut behind the :", d.people(), -3);
        Due.tell(d, "5:40").end(3);
        Due.is("3: cut behind a digit", d.people(), 1);
        Due.is("3: that digit alone counts", d.person(2, 2), 4);
        Due.tell(d, "l+ww").end(1);
        Due.is("3: a cut rule", d.rule(), 0);
    }

    private static void people() {
        Due.of("Promise 4", "THE TEXT tells of PEOPLE (an empty one: nothing): how many LINES.");
        ClockForTalk c = new ClockForTalk();
        Due.is("4: an empty one", c.people(), 0);
        Due.is("4: three", Due.people(c, "5:40;06:7;99:999"), 3);
        Due.is("4: count", c.count(0), 3);
        Due.is("4: STEP of the second", c.person(1, 0), 6);
        Due.is("4: CLOCK at first is YEARLY", c.person(1, 1), 7);
        Due.is("4: CLOCK of the third", c.person(2, 1), 999);
        Due.is("4: SPENT", c.person(2, 3), 0);
        Due.is("4: LOSS", c.person(2, 6), 0);
        Due.is("4: two more", Due.people(c, "0:0;1:001"), 2);
        Due.is("4: the first stay", c.person(0, 1), 40);
        Due.is("4: the fifth", c.person(4, 1), 1);
        Due.of("Promise 4", "the first sign of a LINE for which there is no room");
        Due.is("4: one line of two has no room", Due.people(c, "2:2;3:3"), -5);
        Due.is("4: nothing of it came", c.count(0), 5);
        Due.is("4: a sixth", Due.people(c, "2:2"), 1);
        Due.is("4: a seventh", Due.people(c, "2:2"), -1);
        Due.is("4: an empty one when all are there", c.people(), 0);

        ClockForTalk n = new ClockForTalk();
        Due.of("Promise 4", "-1 - p: the sign at p can't stand there (its end, if it ends too early");
        String[] texts = {"x", ":", "5", "5:", "555:5", "5:5555", "5:5;", "5:5;;", "5;5", "5:5,", "-5:5", "5:-5", ";", "5:5;x", "5: 5"};
        int[] due = {-1, -1, -2, -3, -3, -6, -5, -5, -2, -4, -1, -3, -1, -5, -3};
        for (int i = 0; i < texts.length; i++) Due.is("4: " + texts[i], Due.people(n, texts[i]), due[i]);
        Due.is("4: nobody came", n.count(0), 0);
        Due.is("4: the text is empty behind a fault", n.count(11), 0);
        Due.of("Promise 4", "the first sign of a LINE for which there is no room");
        Due.is("4: six and a ; more ends too early", Due.people(n, Due.times("1:1;", 6)), -25);
        Due.is("4: seven", Due.people(n, Due.times("1:1;", 6) + "1:1"), -25);
        Due.is("4: six and another sign", Due.people(n, Due.times("1:1;", 5) + "1:1x"), -24);
    }

    private static void peopleLimit() {
        Due.of("Promise 4", "76, if it has more and the first 76 could go on or end");
        // Six lines have 41 signs at most, so a text of more than 76 has its fault elsewhere.
        ClockForTalk c = new ClockForTalk();
        Due.is("4: six of the longest", Due.people(c, Due.times("99:999;", 5) + "99:999"), 6);
        ClockForTalk n = new ClockForTalk();
        Due.is("4: eighty signs", Due.people(n, Due.times("9", 80)), -3);
    }

    private static void things() {
        Due.of("Promise 5", "THE TEXT tells of THINGS (an empty one: nothing): how many LINES.");
        ClockForTalk c = Due.town("0:10;5:20;99:30", "");
        Due.is("5: an empty one", c.things(), 0);
        Due.is("5: two", Due.things(c, "ab10-9=5;ca01-99=99"), 2);
        Due.is("5: count", c.count(1), 2);
        int[][] due = {{0, 1, 10, 9, 5, 0}, {2, 0, 1, 99, 99, 0}};
        for (int i = 0; i < 2; i++) {
            for (int j = 0; j < 6; j++) Due.is("5: thing(" + i + ", " + j + ")", c.thing(i, j), due[i][j]);
        }
        Due.is("5: six more", Due.things(c, Due.times("bc9-0=0;", 5) + "bc9-0=0"), 6);
        Due.of("Promise 5", "-1 - p: likewise");
        Due.is("5: a ninth", Due.things(c, "ab1-1=1"), -1);
        Due.is("5: count stays", c.count(1), 8);

        ClockForTalk n = Due.town("0:1;1:1", "");
        Due.is("5: eight of nine, the longest: the place of the ninth", Due.things(n, Due.times("ab1-1=1;", 8) + "ab1-1=1"), -65);
        Due.is("5: eight with a ; more", Due.things(n, Due.times("ab1-1=1;", 8)), -65);
        // Seven of ten signs and ; have 77: the sign at 76 is the last ;.
        String seven = Due.times("ab10-10=10;", 6) + "ab10-10=10";
        Due.is("5: 76 signs", Due.things(n, seven), 7);
        ClockForTalk m = Due.town("0:1;1:1", "");
        Due.is("5: 77 signs, that one a ;", Due.things(m, seven + ";"), -77);
        Due.is("5: 80 signs, those behind the 76th can't stand at all", Due.things(m, seven + "xxxx"), -77);
        Due.is("5: a fault ahead of the 76th is told first", Due.things(m, "ab10-10=1x;" + Due.times("ab10-10=10;", 6)), -10);
        Due.is("5: nothing came", m.count(1), 0);
        Due.is("5: the 75th could go on", Due.things(m, Due.times("ab10-10=10;", 6) + "ab10-10=111"), -77);
    }

    private static void thingsWrong() {
        Due.of("Promise 5", "-1 - p: likewise (a letter of nobody, or like the one ahead: at it; SECONDS of 0: at the last digit).");
        ClockForTalk c = Due.town("0:10;5:20;99:30", "");
        String[] texts = {"x", "d", "a", "aa1-1=1", "ad1-1=1", "ab", "ab-", "ab0-1=1", "ab00-1=1", "ab0", "ab05-1=1;", "ab5",
            "ab555-5=5", "ab5-", "ab5-5", "ab5-555=5", "ab5-5=", "ab5-5=555", "ab5-5=5;", "ab5-5=5;ab5-5=5;cc", "A", "ab5:5=5", "ab5-5-5",
            "10-9=5", "a10-9=5", "`b5-5=5", "a`5-5=5", "ab/-5=5", "ab5-:=5", "ab5-5=5;10-9=5"};
        int[] due = {-1, -1, -2, -2, -2, -3, -3, -3, -4, -3, -10, -4,
            -5, -5, -6, -7, -7, -9, -9, -18, -1, -4, -6,
            -1, -2, -1, -2, -3, -5, -9};
        for (int i = 0; i < texts.length; i++) Due.is("5: " + texts[i], Due.things(c, texts[i]), due[i]);
        Due.is("5: nothing came", c.count(1), 0);
        ClockForTalk one = Due.town("0:10", "");
        Due.is("5: one alone has nobody to say it to", Due.things(one, "ab1-1=1"), -2);
        Due.is("5: nobody there", Due.things(new ClockForTalk(), "ab1-1=1"), -1);
    }

    private static void ruleText() {
        Due.of("Promise 6", "THE TEXT is THE RULE (an empty one: none): 0.");
        ClockForTalk c = Due.town("0:999;0:999", "ab20-9=1");
        Due.is("6: an empty one", c.rule(), 0);
        Due.is("6: l", Due.rule(c, "l"), 0);
        Due.is("6: cost by it", c.cost(0, 0), 20);
        Due.of("Promise 6", "-1 - p: as people() (40 signs).");
        String[] texts = {"x", "l+", "(l", "l)", "()", "1234", "l l", "l<w=s", "l<w+1>2", "*l", "+l", "-", "--", "l--", "ll", "5l", "(1)(2)",
            "l=", "(((((l)))))", "L", "l*/w", "1<2<3", "l,", "l*", "l/", "l*(", "l*x", "(l*)", "l<", "l>(w", "l<(w>s=d)", "l+(w"};
        int[] due = {-1, -3, -3, -2, -2, -4, -2, -4, -6, -1, -1, -2, -3, -4, -2, -2, -4,
            -3, -5, -1, -3, -4, -2, -3, -3, -4, -3, -4, -3, -5, -7, -5};
        for (int i = 0; i < texts.length; i++) Due.is("6: " + texts[i], Due.rule(c, texts[i]), due[i]);
        Due.is("6: a refused one changes nothing", c.cost(0, 0), 20);
        Due.is("6: the text is empty then", c.count(11), 0);
        Due.is("6: four in one another", Due.rule(c, "((((l))))+(((1)))"), 0);
        Due.is("6: cost", c.cost(0, 0), 21);
        Due.is("6: 40 signs", Due.rule(c, Due.times("1+", 19) + "22"), 0);
        Due.is("6: cost of 40 signs", c.cost(0, 0), 41);
        Due.is("6: 41 signs that could end", Due.rule(c, Due.times("1+", 20) + "2"), -41);
        Due.is("6: 41 signs, the last can't stand", Due.rule(c, Due.times("1+", 20) + "x"), -41);
        Due.is("6: 41 signs, the 39th can't stand", Due.rule(c, Due.times("1+", 19) + "x+2"), -39);
        Due.is("6: 40 signs that end too early", Due.rule(c, Due.times("1+", 20)), -41);
        Due.is("6: 80 signs", Due.rule(c, Due.times("-", 80)), -41);
        Due.is("6: none again", c.rule(), 0);
        Due.is("6: cost by none", c.cost(0, 0), 10);
    }

    private static void ruleWorth() {
        Due.of("Terms 1", "EXPRESSION: < > = bind least (two; 1 or 0; not one behind the other), then + - (from the left), then * / (from the left; by 0: 0; cut to 0), then - ahead of a thing (any many)");
        // a at 10 and b at 15: five steps; c lives at 11. The thing has 20 seconds, a 300 on its clock.
        ClockForTalk c = Due.town("10:300;15:1;11:1;30:1", "ab20-99=1");
        c.days(7);
        String[] rules = {"7", "007", "1+2*3", "(1+2)*3", "10-3-2", "100/7/2", "7/0", "7/0+5", "3-10", "-3+5", "--3", "---3+9", "2*-3+9", "2--3",
            "-7/2+9", "(0-7)/2+9", "1<2", "2<1", "2>1", "2=2", "1+1=2", "(1<2)<3", "1<(2<3)", "5*(2=2)+1", "999+1", "l", "w", "s", "c", "d", "h",
            "l*l*l*l*l*l*l*l", "-999*999*999", "l*w+s", "999*999*999*999", "(2-5)*(0-3)", "8/3*3", "(3)", "-(2-9)", "1-(2<3)", "5+(2<1)", "5+(1>2)", "5+(1=2)", "5+(2>1)", "(1=1)+(1<2)+5"};
        int[] due = {7, 7, 7, 9, 5, 7, 0, 5, 0, 2, 3, 6, 3, 5,
            6, 6, 1, 0, 1, 1, 1, 1, 0, 6, 999, 20, 2, 5, 300, 7, 2,
            0, 0, 45, 0, 9, 6, 3, 7, 0, 5, 5, 5, 6, 7};
        for (int i = 0; i < rules.length; i++) {
            Due.is("6: " + rules[i], Due.rule(c, rules[i]), 0);
            int want = due[i];
            // Products wrap as ints do.
            if (rules[i].equals("l*l*l*l*l*l*l*l")) want = cut(20 * 20 * 20 * 20 * 20 * 20 * 20 * 20);
            if (rules[i].equals("999*999*999*999")) want = cut(999 * 999 * 999 * 999);
            if (rules[i].equals("-999*999*999")) want = cut(-999 * 999 * 999);
            Due.is("6: cost by " + rules[i], c.cost(0, 2), want);
        }
        Due.of("Terms 1", "h how many (but who says it) live where it is heard");
        Due.rule(c, "h");
        Due.is("6: h shouted", c.cost(0, 3), 3);
        Due.is("6: h sung is nobody but c, who lives one step off", Due.rule(c, "h*10+(w=1)"), 0);
        c.move(1, 13);
        Due.is("6: h sung", c.cost(0, 1), 21);
        c.move(2, 14);
        Due.is("6: h sung, c is too far", c.cost(0, 1), 11);
        c.move(2, 11);
        c.move(1, 15);
        Due.rule(c, "d");
        c.days(99);
        Due.is("6: d is DAY by 100", c.cost(0, 2), 6);
        Due.rule(c, "");
        int[] usual = {10, 7, 20, 40};
        c.move(1, 10);
        for (int way = 0; way < 4; way++) Due.is("6: by none, way " + way, c.cost(0, way), usual[way]);
        ClockForTalk o = Due.town("0:99;0:99", "ab9-99=1;ab1-99=1;ab99-99=1;ab10-99=1;ab11-99=1");
        int[][] odd = {{5, 3, 9, 18}, {1, 1, 1, 2}, {50, 33, 99, 198}, {5, 4, 10, 20}, {6, 4, 11, 22}};
        for (int i = 0; i < 5; i++) {
            for (int way = 0; way < 4; way++) Due.is("6: by none, thing " + i + ", way " + way, o.cost(i, way), odd[i][way]);
        }
    }

    private static int cut(int n) {
        return Math.max(0, Math.min(999, n));
    }

    private static void person() {
        Due.of("Promise 7", "Of one of PEOPLE, what 0: STEP, 1: CLOCK, 2: YEARLY, 3: SPENT (what all it said since New Year, or the beginning, cost), 4: what it OWES in all, 5: what is OWED to it, 6: LOSS.");
        ClockForTalk c = Due.town("10:300;15:50;12:70", "ab20-99=1;ba10-99=1");
        c.say(0, 2);
        c.lend(0, 1, 100, 30);
        c.lend(2, 1, 10, 20);
        c.lend(1, 2, 5, 40);
        int[][] due = {{10, 180, 300, 20, 0, 100, 0}, {15, 155, 50, 0, 110, 5, 0}, {12, 65, 70, 0, 5, 10, 0}};
        for (int i = 0; i < 3; i++) {
            for (int j = 0; j < 7; j++) Due.is("7: person(" + i + ", " + j + ")", c.person(i, j), due[i][j]);
        }
        c.sheet(2, 3, 5, 0);
        c.days(20);
        Due.is("7: an ended loan is not owed", c.person(1, 4), 100);
        Due.is("7: nor owed to the lender", c.person(2, 5), 0);
        Due.is("7: LOSS", c.person(2, 6), 5);
        c.days(80);
        Due.is("7: SPENT since New Year", c.person(0, 3), 0);
        c.lend(1, 0, 4, 400);
        Due.is("7: the first one owes", c.person(0, 4), 4);
        Due.is("7: what the first one owes is owed to b", c.person(1, 5), 4);
        Due.of("Promise 7", "NoSuchElementException: none such, another what.");
        Due.throwsNoSuch("7: person(3, 0)", () -> c.person(3, 0));
        Due.throwsNoSuch("7: person(-1, 0)", () -> c.person(-1, 0));
        Due.throwsNoSuch("7: person(0, 7)", () -> c.person(0, 7));
        Due.throwsNoSuch("7: person(0, -1)", () -> c.person(0, -1));
        Due.throwsNoSuch("7: person(MAX, MIN)", () -> c.person(Integer.MAX_VALUE, Integer.MIN_VALUE));
    }

    private static void thing() {
        Due.of("Promise 8", "7: the WAY by which it costs the least and is heard by whom it is for (of equal ones the first)");
        ClockForTalk c = Due.town("10:300;11:50;20:70", "ab20-99=7;ac10-9=1;bc3-2=4");
        Due.is("8: STEPS apart", c.thing(0, 6), 1);
        Due.is("8: STEPS apart, of the second", c.thing(1, 6), 10);
        Due.is("8: sung costs least at one step", c.thing(0, 7), 1);
        Due.is("8: shouted alone is heard ten steps apart", c.thing(1, 7), 3);
        Due.is("8: loud at nine", c.thing(2, 7), 2);
        Due.is("8: not said", c.thing(0, 5), 0);
        c.say(0, 1);
        Due.is("8: SAID", c.thing(0, 5), 1);
        Due.rule(c, "5");
        Due.is("8: of equal ones the first", c.thing(0, 7), 0);
        Due.rule(c, "999");
        Due.is("8: of the dearest ones the first", c.thing(0, 7), 0);
        Due.rule(c, "5");
        Due.is("8: of equal ones the first that is heard", c.thing(2, 7), 2);
        Due.rule(c, "9-w");
        Due.is("8: the least is shouted", c.thing(0, 7), 3);
        c.move(2, 11);
        Due.is("8: apart where they live now", c.thing(2, 6), 0);
        Due.of("Promise 8", "NoSuchElementException: likewise.");
        Due.throwsNoSuch("8: thing(3, 0)", () -> c.thing(3, 0));
        Due.throwsNoSuch("8: thing(-1, 0)", () -> c.thing(-1, 0));
        Due.throwsNoSuch("8: thing(0, 8)", () -> c.thing(0, 8));
        Due.throwsNoSuch("8: thing(0, -1)", () -> c.thing(0, -1));
        Due.of("Terms 1", "WAYS of speech: 0 whispered (heard no more than 1 STEP apart), 1 sung (3), 2 loud (9), 3 shouted (99).");
        // WAYS reach 1, 3, 9 and 99 steps.
        int[] steps = {0, 1, 2, 3, 4, 9, 10, 99};
        int[] first = {0, 0, 1, 1, 2, 2, 3, 3};
        ClockForTalk w = Due.town("0:9;0:9", "ab1-99=1");
        Due.rule(w, "w");
        for (int i = 0; i < steps.length; i++) {
            w.move(1, steps[i]);
            Due.is("8: the first way heard " + steps[i] + " apart", w.thing(0, 7), first[i]);
            for (int way = 0; way < 4; way++) {
                Due.is("12: way " + way + ", " + steps[i] + " apart", w.cost(0, way), way < first[i] ? -2 : way);
            }
        }
    }

    private static void loan() {
        Due.of("Promise 9", "Of a LOAN, what 0: who lent, 1: to whom, 2: OWED, 3: DUE, 4: 1 if it has ended.");
        ClockForTalk c = Due.town("10:300;11:50", "");
        c.lend(1, 0, 33, 31);
        c.lend(0, 1, 5, 30);
        int[][] due = {{1, 0, 33, 31, 0}, {0, 1, 5, 30, 0}};
        for (int i = 0; i < 2; i++) {
            for (int j = 0; j < 5; j++) Due.is("9: loan(" + i + ", " + j + ")", c.loan(i, j), due[i][j]);
        }
        c.days(29);
        Due.is("9: not yet a month", c.loan(0, 2), 33);
        c.days(1);
        Due.is("9: a tenth more, cut", c.loan(0, 2), 36);
        Due.is("9: not ended", c.loan(0, 4), 0);
        Due.is("9: 5 has no tenth", c.loan(1, 2), 5);
        Due.is("9: ended", c.loan(1, 4), 1);
        c.days(1);
        Due.is("9: ended the day behind", c.loan(0, 4), 1);
        c.days(29);
        Due.is("9: an ended one grows no more", c.loan(0, 2), 36);
        Due.of("Promise 9", "NoSuchElementException: likewise.");
        Due.throwsNoSuch("9: loan(2, 0)", () -> c.loan(2, 0));
        Due.throwsNoSuch("9: loan(-1, 0)", () -> c.loan(-1, 0));
        Due.throwsNoSuch("9: loan(0, 5)", () -> c.loan(0, 5));
        Due.throwsNoSuch("9: loan(0, -1)", () -> c.loan(0, -1));
    }

    private static void move() {
        Due.of("Promise 10", "One moves to a STEP (0 .. 99): where it lived.");
        ClockForTalk c = Due.town("10:300;11:50", "ab1-1=1");
        Due.is("10: where it lived", c.move(0, 99), 10);
        Due.is("10: where it lives", c.person(0, 0), 99);
        Due.is("10: to 0", c.move(0, 0), 99);
        Due.is("10: to where it is", c.move(0, 0), 0);
        Due.of("Promise 10", "Refused: others.");
        Due.is("10: to 100", c.move(0, 100), -1);
        Due.is("10: to -1", c.move(0, -1), -1);
        Due.is("10: nobody", c.move(2, 5), -1);
        Due.is("10: nobody ahead", c.move(-1, 5), -1);
        Due.is("10: it stays", c.person(0, 0), 0);
        Due.is("10: a move is not undone", c.undo(), -1);
    }

    private static void sheet() {
        Due.of("Promise 11", "CLOCKS of PEOPLE 0, 1, .., as a sheet tells them: bytes (kind 0), shorts (1), ints (2) of n entries f, f + step, .. (of bytes, shorts the lowest bits, with their sign; put to 0 .. 9999), or a missing one (3): those behind it have 0: the sum of all that there are (entries beyond them are left aside).");
        ClockForTalk c = Due.town("1:10;2:20;3:30", "");
        Due.is("11: ints", c.sheet(2, 3, 100, 7), 321);
        Due.is("11: the first", c.person(0, 1), 100);
        Due.is("11: the third", c.person(2, 1), 114);
        Due.is("11: YEARLY stays", c.person(2, 2), 30);
        Due.is("11: entries beyond them are left aside", c.sheet(2, 6, 1, 1), 6);
        Due.is("11: those behind have 0", c.sheet(2, 1, 5, 1), 5);
        Due.is("11: the second", c.person(1, 1), 0);
        Due.is("11: of none", c.sheet(2, 0, 5, 1), 0);
        Due.is("11: bytes with their sign", c.sheet(0, 3, 100, 27), 227);
        Due.is("11: 154 as a byte is below 0", c.person(2, 1), 0);
        Due.is("11: 256 + 5 as a byte", c.sheet(0, 1, 261, 0), 5);
        Due.is("11: shorts with their sign", c.sheet(1, 2, 65536 + 77, 32768), 77);
        Due.is("11: 9999 at most", c.sheet(1, 1, 10000, 0), 9999);
        Due.is("11: ints, below 0", c.sheet(2, 2, -5, 6), 1);
        Due.is("11: ints wrap", c.sheet(2, 2, Integer.MAX_VALUE, 1), 9999);
        Due.is("11: ints wrap to below 0", c.person(1, 1), 0);
        Due.of("Promise 11", "-3: missing (all 0)");
        Due.is("11: missing", c.sheet(3, 3, 5, 5), -3);
        Due.is("11: all 0", c.count(6), 0);
        c.sheet(2, 3, 100, 7);
        Due.of("Promise 11", "-2: n below 0 (of kinds 0 .. 2; nothing changes)");
        Due.is("11: n below 0", c.sheet(0, -1, 5, 5), -2);
        Due.is("11: nothing changes", c.count(6), 321);
        Due.of("Promise 11", "NONE: another kind, n above 6 (these first).");
        Due.is("11: n above 6", c.sheet(0, 7, 5, 5), -1);
        Due.is("11: n above 6 of a missing one", c.sheet(3, 7, 5, 5), -1);
        Due.is("11: kind 4", c.sheet(4, -1, 5, 5), -1);
        Due.is("11: kind -1", c.sheet(-1, 3, 5, 5), -1);
        Due.is("11: nothing changes with NONE", c.count(6), 321);
        Due.of("Promise 11", "-3: missing (all 0)");
        Due.is("11: a missing one has no n below 0", c.sheet(3, -1, 5, 5), -3);
        Due.is("11: all 0 then", c.count(6), 0);
        Due.is("11: nobody there", new ClockForTalk().sheet(2, 6, 5, 5), 0);
        Due.is("11: nobody there, missing", new ClockForTalk().sheet(3, 6, 5, 5), -3);
        Due.is("11: no act that can be undone", c.undo(), -1);
    }
}
