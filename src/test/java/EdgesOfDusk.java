/** Promises 31 to 34, sentence by sentence. */
final class EdgesOfDusk {
    private EdgesOfDusk() { }

    static void run() {
        read();
        readDay();
        forget();
        spoke();
        spokeRefused();
        look();
    }

    private static void read() {
        Due.of("Promise 31", "The CLOCK of one was read: v (0 .. 9999), behind a day in which it said some of its THINGS");
        ClockForTalk c = Due.town("0:9;0:9;0:9;0:9;0:9;0:9", "");
        int[] v = {0, 9999, 1, 9998, 9, 5};
        for (int i = 0; i < 6; i++) Due.is("read(" + i + ", " + v[i] + ")", c.read(i, v[i]), i + 1);
        Due.is("all of them", c.count(8), 63);
        Due.is("the CLOCK itself stays", c.person(0, 1), 9);

        Due.of("Promise 31", ": how many were read (one of the same person takes the place of the elder).");
        Due.is("the same again", c.read(0, 9), 6);
        Due.is("the later one counts", c.spoke(0), 1);
        ClockForTalk one = Due.busy();
        Due.is("a, b having been read", one.read(0, 1), 2);
        Due.is("b again", one.read(1, 15), 2);
        Due.is("b by the later one: nothing was said", one.spoke(1), 1);

        Due.of("Promise 31", "Refused: others.");
        int[][] wrong = {{-1, 5}, {3, 5}, {6, 5}, {0, -1}, {0, 10000}, {3, -1}, {Integer.MAX_VALUE, 5}, {Integer.MIN_VALUE, 5}, {0, Integer.MAX_VALUE}, {0, Integer.MIN_VALUE}};
        for (int[] w : wrong) Due.refused("read(" + w[0] + ", " + w[1] + ")", -1, x -> x.read(w[0], w[1]));
        ClockForTalk keeps = Due.busy();
        keeps.read(1, 12);
        keeps.read(1, 10000);
        Due.is("a refused one leaves the elder", keeps.spoke(1), 1);
    }

    private static void readDay() {
        Due.of("Promise 31", "that can be said now, each by some WAY that is heard (COST by the CLOCK as it is now), and nothing else");
        // THING 2 of b: whispered 5, sung 3, loud 9, shouted 18 of 15.
        ClockForTalk c = Due.busy();
        int[] v = {15, 12, 10, 6, 14, 16, 0};
        int[] due = {1, 1, 1, 1, 0, 0, 0};
        for (int i = 0; i < v.length; i++) {
            c.read(1, v[i]);
            Due.is("b read as " + v[i], c.spoke(1), due[i]);
        }
        c.move(1, 8);
        c.read(1, 10);
        Due.is("whispered is not heard three STEPS apart", c.spoke(1), 0);
        c.read(0, 27);
        Due.is("what was SAID can't be said now", c.spoke(0), 0);
        c.read(0, 31);
        Due.is("nor what is too late", c.spoke(0), 1);
        ClockForTalk two = Due.town("0:20;0:0", "ab9-9=1;ab9-9=1");
        Due.rule(two, "c/2");
        two.read(0, 0);
        Due.is("10 each by the CLOCK of 20, not 10 and 5", two.spoke(0), 1);
        Due.row("both", two, 3, 3);
    }

    private static void forget() {
        Due.of("Promise 32", "They are forgotten: how many there were.");
        ClockForTalk c = Due.busy();
        c.read(0, 5);
        c.read(1, 5);
        Due.is("two", c.forget(), 2);
        Due.is("none", c.count(8), 0);
        Due.is("none then", c.forget(), 0);
        Due.is("not read then", c.spoke(0), -2);
        Due.is("read anew", c.read(2, 5), 1);
        Due.is("nobody", new ClockForTalk().forget(), 0);
        Due.row("it tells no ROW", c, 12, 63);
    }

    private static void spoke() {
        Due.of("Promise 33", "Sets of THINGS of one that explain what was read (0: nothing was said): how many; the ROW: the least bits (NONE), THINGS that are in all of them (0 without).");
        // At one place: 5, 4, 10, 20 of the first; 3, 2, 6, 12 of the second.
        ClockForTalk c = Due.town("0:40;0:0", "ab10-9=5;ab6-9=8");
        int[][] due = {{40, 1, 0, 0}, {36, 1, 1, 1}, {28, 2, 2, 2}, {30, 2, 1, 1}, {8, 1, 3, 3}, {39, 0, -1, 0}, {41, 0, -1, 0}, {0, 0, -1, 0}, {9999, 0, -1, 0}};
        for (int[] d : due) {
            c.read(0, d[0]);
            Due.is("read as " + d[0], c.spoke(0), d[1]);
            Due.row("read as " + d[0], c, d[2], d[3]);
        }
        c.read(1, 0);
        Due.is("one without THINGS, a CLOCK of 0", c.spoke(1), 1);
        Due.row("one without THINGS, a CLOCK of 0", c, 0, 0);
        Due.rule(c, "0");
        c.read(0, 40);
        Due.is("for nothing: none, each, both", c.spoke(0), 4);
        Due.row("for nothing: the least is none, none is in all", c, 0, 0);
        Due.rule(c, "20");
        c.read(0, 20);
        Due.is("either of two", c.spoke(0), 2);
        Due.row("either of two: none is in all", c, 1, 0);
        ClockForTalk eight = Due.town("0:0;0:0", Due.times("ab1-9=1;", 7) + "ab1-9=1");
        eight.sheet(2, 1, 9999, 0);
        Due.rule(eight, "999");
        eight.read(0, 9999 - 8 * 999);
        Due.is("all eight of the dearest", eight.spoke(0), 1);
        Due.row("all eight of the dearest", eight, 255, 255);
        eight.read(0, 9999 - 8 * 999 - 1);
        Due.is("a second more", eight.spoke(0), 0);
        eight.read(0, 0);
        Due.is("all that the CLOCK has", eight.spoke(0), 0);
        eight.read(0, 9999 - 999);
        Due.is("one of eight", eight.spoke(0), 8);
        Due.row("one of eight", eight, 1, 0);
        Due.rule(eight, "0");
        eight.read(0, 9999);
        Due.is("any set of eight", eight.spoke(0), 256);
        Due.row("any set of eight", eight, 0, 0);
        int[] tooMuch = {1999, 1998, 0};
        for (int v : tooMuch) {
            eight.read(0, v);
            Due.is("for nothing, and read as " + v, eight.spoke(0), 0);
        }
        spokeSums();
    }

    private static void spokeSums() {
        // Whispered, sung, loud and shouted are heard alike: 63, 64, 65 and 129 seconds of 400.
        ClockForTalk c = Due.town("0:400;0:0", "ab1-9=1;ab1-9=1;ab1-9=1");
        Due.rule(c, "63+w+63*(w=3)");
        int[] sums = {0, 63, 64, 65, 129, 62, 66, 126, 130, 127, 194, 258, 189, 195, 196, 323, 387, 388, -1, -63};
        int[] sets = {1, 3, 3, 3, 6, 0, 0, 3, 3, 3, 4, 4, 1, 1, 0, 1, 1, 0, 0, 0};
        for (int i = 0; i < sums.length; i++) {
            c.read(0, 400 - sums[i]);
            Due.is(sums[i] + " seconds", c.spoke(0), sets[i]);
        }
        ClockForTalk two = Due.town("0:400;0:0", "ab63-9=1;ab65-9=1");
        Due.rule(two, "l");
        two.read(0, 400 - 128);
        Due.is("63 and 65 seconds", two.spoke(0), 1);
        Due.row("63 and 65 seconds", two, 3, 3);
    }

    private static void spokeRefused() {
        Due.of("Promise 33", "-2: its CLOCK was not read;");
        Due.refused("spoke(0)", -2, c -> c.spoke(0));
        Due.refused("spoke(2)", -2, c -> c.spoke(2));

        Due.of("Promise 33", "NONE: none such.");
        int[] nobody = {-1, 3, 6, 32, 33, Integer.MAX_VALUE, Integer.MIN_VALUE};
        for (int p : nobody) Due.refused("spoke(" + p + ")", -1, c -> c.spoke(p));
    }

    private static void look() {
        Due.of("Promise 34", "The one of PEOPLE whose CLOCK was not read and could show the most different seconds (behind such a day; sets that its CLOCK can pay): of equal ones the first: it; the ROW: how many.");
        // a: 0, 5, 4, 10, 20; b: 0, 5, 3, 9; c shouts for 60: 0, 60.
        ClockForTalk c = Due.town("5:40;6:10;20:100", "ab10-9=5;ba9-9=4;cb30-50=9");
        Due.is("a", c.look(), 0);
        Due.row("a", c, 5);
        c.read(0, 0);
        Due.is("b", c.look(), 1);
        Due.row("b: 18 is more than it has", c, 4);
        c.read(1, 0);
        Due.is("c", c.look(), 2);
        Due.row("c", c, 2);
        c.sheet(2, 3, 59, 0);
        c.look();
        Due.row("c can't pay: nothing said is one", c, 1);
        c.sheet(2, 3, 60, 0);
        c.look();
        Due.row("c can just pay", c, 2);
        ClockForTalk e = Due.town("0:9;0:9;0:9", "bc3-9=1;cb3-9=1");
        Due.is("of equal ones the first", e.look(), 1);
        Due.row("0, 2, 1, 3, 6", e, 5);
        e.read(1, 1);
        Due.is("the next", e.look(), 2);
        e.read(2, 1);
        Due.is("one who has nothing to say", e.look(), 0);
        Due.row("one who has nothing to say", e, 1);
        ClockForTalk same = Due.town("0:9;0:9", "ab3-9=1;ab3-9=1;ba9-9=1");
        Due.rule(same, "1");
        Due.is("different seconds, not different sets", same.look(), 0);
        Due.row("0, 1, 2", same, 3);
        ClockForTalk most = Due.town("0:9;0:9", Due.times("ab1-9=1;", 7) + "ab1-9=1");
        most.sheet(2, 1, 9999, 0);
        Due.rule(most, "999-(w<3)-2*(w<2)-4*(w=0)");
        most.look();
        Due.row("eight by 999, 998, 996 or 992", most, expected(new int[] {999, 998, 996, 992}, 8, 9999));
        most.sheet(2, 1, 2000, 0);
        most.look();
        Due.row("of which 2000 pay two", most, expected(new int[] {999, 998, 996, 992}, 8, 2000));

        Due.of("Promise 34", "-2: all were read, nobody is there.");
        ClockForTalk all = Due.busy();
        all.read(0, 1);
        all.read(2, 1);
        Due.refused("look()", -2, all, x -> x.look());
        Due.refused("look(), nobody", -2, new ClockForTalk(), x -> x.look());
        all.forget();
        Due.is("all forgotten", all.look(), 1);
        Due.people(all, "1:1");
        for (int i = 0; i < 3; i++) all.read(i, 1);
        Due.is("one who came was not read", all.look(), 3);
    }

    /** How many sums up to so much there are of up to so many, each of one of these. */
    private static int expected(int[] each, int many, int most) {
        boolean[] sums = new boolean[10000];
        sums[0] = true;
        for (int i = 0; i < many; i++) {
            for (int s = most; s >= 0; s--) {
                for (int e : each) if (sums[s] && s + e <= most) sums[s + e] = true;
            }
        }
        int count = 0;
        for (boolean s : sums) if (s) count++;
        return count;
    }
}
