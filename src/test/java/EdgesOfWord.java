/** Promises 24 to 27, sentence by sentence. */
final class EdgesOfWord {
    private EdgesOfWord() { }

    static void run() {
        relay();
        relayRefused();
        criers();
        criersRefused();
        debate();
        enough();
    }

    private static void relay() {
        Due.of("Promise 24", "The least COST in all by which a word comes from one to another one, or the same, each who speaks paying by its own CLOCK, nobody twice: how much; the ROW: those it goes by in turn, both too: of as cheap ones the least row.");
        // 3 STEPS from one to the next: sung for a third, farther ones loud or shouted.
        ClockForTalk c = Due.town("0:99;3:99;6:99;9:99;12:99;15:99", "");
        Due.is("to the same", c.relay(5, 5, 99), 0);
        Due.row("to the same", c, 5);
        Due.is("to the next", c.relay(5, 4, 99), 33);
        Due.row("to the next", c, 5, 4);
        Due.is("as dear as five songs", c.relay(5, 0, 99), 165);
        Due.row("loud over three is as cheap as three songs, and its row is less", c, 5, 2, 1, 0);
        Due.is("one second: loud for 1 and sung for 1", c.relay(0, 5, 1), 2);
        Due.row("shouted for 2 is as cheap, but the row 0 2 5 is the least", c, 0, 2, 5);
        c.sheet(2, 6, 33, 0);
        Due.is("each by its own CLOCK, just enough", c.relay(5, 0, 99), 165);
        Due.row("through all six, for none can pay more", c, 5, 4, 3, 2, 1, 0);
        Due.is("from one who has just enough", c.relay(4, 5, 99), 33);
        c.sheet(2, 6, 33, -1);
        Due.is("f has 28", c.relay(5, 4, 99), -2);
        Due.is("who is told last pays nothing", c.relay(0, 1, 99), 33);
        c.sheet(3, 0, 0, 0);
        Due.is("to the same with a CLOCK of 0", c.relay(0, 0, 1), 0);
        Due.rule(c, "0");
        Due.is("for nothing", c.relay(5, 4, 1), 0);
        Due.row("nobody twice", c, 5, 0, 1, 2, 3, 4);
        Due.is("for nothing to the first", c.relay(5, 0, 1), 0);
        Due.row("the least row is straight", c, 5, 0);
        ClockForTalk r = Due.town("0:9;0:9;0:9", "");
        Due.rule(r, "c/3-(h=9)");
        Due.is("by c: what who speaks has", r.relay(0, 1, 1), 3);
        r.sheet(2, 3, 9, -9);
        Due.is("c has nothing, so it speaks for nothing", r.relay(2, 0, 1), 0);
        Due.row("by b, which has nothing, too, is no less", r, 2, 0);
    }

    private static void relayRefused() {
        Due.of("Promise 24", "-2: it can't be;");
        Due.refused("relay(1, 2, 30), b has 15, a 31", -2, c -> c.relay(1, 2, 30));
        ClockForTalk c = Due.town("0:1;99:1", "");
        Due.refused("relay(0, 1, 1), one second too few", -2, c, x -> x.relay(0, 1, 1));
        c.sheet(2, 2, 2, 0);
        Due.is("just enough", c.relay(0, 1, 1), 2);

        Due.of("Promise 24", "NONE: others.");
        int[][] wrong = {{-1, 0, 1}, {0, -1, 1}, {3, 0, 1}, {0, 3, 1}, {3, 3, 1}, {0, 1, 0}, {0, 1, 100}, {0, 0, 0}, {0, 0, 100}, {0, 1, -1},
            {Integer.MAX_VALUE, 0, 1}, {0, Integer.MIN_VALUE, 1}, {0, 1, Integer.MAX_VALUE}, {0, 1, Integer.MIN_VALUE}};
        for (int[] w : wrong) Due.refused("relay(" + w[0] + ", " + w[1] + ", " + w[2] + ")", -1, x -> x.relay(w[0], w[1], w[2]));
    }

    private static void criers() {
        Due.of("Promise 25", "The fewest who must speak so that all PEOPLE told as bits know a word that one knows at first, each who speaks (knowing it) once, by one WAY that its CLOCK can pay (s is 0 for THE RULE); who lives where it is heard knows it then: how many (0: nobody needs to); the ROW: they (bits: of as few the least).");
        // Sung is all that 3 seconds pay for a word of 9: each reaches the next one.
        ClockForTalk c = Due.town("0:3;3:3;6:3;9:3;12:3;15:3", "");
        int[][] calls = {{0, 0, 0, 0}, {0, 1, 0, 0}, {5, 32, 0, 0}, {0, 2, 1, 1}, {0, 3, 1, 1}, {0, 4, 2, 3}, {0, 63, 5, 31}, {5, 63, 5, 62}, {2, 63, 4, 30}, {2, 10, 1, 4}, {5, 1, 5, 62}};
        for (int[] call : calls) {
            Due.is("criers(" + call[0] + ", " + call[1] + ", 9)", c.criers(call[0], call[1], 9), call[2]);
            Due.row("criers(" + call[0] + ", " + call[1] + ", 9)", c, call[3]);
        }
        c.sheet(2, 6, 18, 0);
        Due.is("shouted by one", c.criers(3, 63, 9), 1);
        Due.row("shouted by one", c, 8);
        c.sheet(2, 6, 17, 0);
        Due.is("loud by two", c.criers(0, 63, 9), 2);
        Due.row("a, and of b, c, d the least", c, 5);
        Due.is("the farthest that b reaches loud is e", c.criers(0, 31, 9), 2);
        Due.row("a, b", c, 3);
        ClockForTalk k = Due.town("0:2;0:10;3:9", "");
        Due.rule(k, "1+w*9");
        Due.is("a can whisper alone, b can sing", k.criers(0, 4, 3), 2);
        Due.row("a whispers, b sings", k, 3);
        k.sheet(2, 3, 10, 0);
        Due.is("a sings itself", k.criers(0, 4, 3), 1);
        k.sheet(2, 3, 9, 0);
        Due.is("nobody can sing", k.criers(0, 4, 3), -2);
        Due.rule(k, "s+(w>0)*99");
        Due.is("s is 0", k.criers(0, 2, 3), 1);
        Due.is("whispered alone can be paid", k.criers(0, 4, 3), -2);
        Due.rule(k, "99*(w<3)");
        Due.is("shouted alone can be paid", k.criers(0, 6, 3), 1);
        Due.rule(k, "c");
        Due.is("all that the CLOCK has", k.criers(0, 6, 3), 1);
        Due.rule(k, "c+1");
        Due.is("one more than it has", k.criers(0, 6, 3), -2);
        Due.is("to oneself it costs nothing", k.criers(0, 1, 3), 0);
        Due.rule(k, "s");
        k.sheet(3, 0, 0, 0);
        Due.is("s is 0 for one who has nothing", k.criers(0, 6, 3), 1);
        // a reaches b and d; b reaches c, c reaches e; d reaches e at once.
        ClockForTalk few = Due.town("10:3;11:3;14:3;13:3;16:3", "");
        Due.is("fewer are ahead of lesser bits", few.criers(0, 16, 9), 2);
        Due.row("a and d, not a, b and c", few, 9);
    }

    private static void criersRefused() {
        Due.of("Promise 25", "-2: it can't be;");
        Due.refused("criers(1, 4, 60)", -2, c -> c.criers(1, 4, 60));
        ClockForTalk none = Due.busy();
        none.sheet(3, 0, 0, 0);
        Due.refused("criers(0, 2, 1), with nothing", -2, none, c -> c.criers(0, 2, 1));
        Due.refused("criers(1, 1, 1), with nothing", -2, none, c -> c.criers(1, 1, 1));
        ClockForTalk other = Due.town("0:0;0:99;50:99", "");
        Due.refused("criers(0, 4, 9), b could shout, but does not know it", -2, other, c -> c.criers(0, 4, 9));

        Due.of("Promise 25", "NONE: others.");
        int[][] wrong = {{-1, 1, 1}, {3, 1, 1}, {0, 8, 1}, {0, 9, 1}, {0, 64, 1}, {0, -1, 1}, {0, Integer.MIN_VALUE, 1}, {0, 1, 0}, {0, 1, 100}, {0, 0, 0}, {0, 0, 100},
            {0, 1, -1}, {Integer.MAX_VALUE, 0, 1}, {Integer.MIN_VALUE, 0, 1}, {0, 1, Integer.MAX_VALUE}, {0, 1, Integer.MIN_VALUE}};
        for (int[] w : wrong) Due.refused("criers(" + w[0] + ", " + w[1] + ", " + w[2] + ")", -1, c -> c.criers(w[0], w[1], w[2]));
        ClockForTalk six = Due.town("0:9;0:9;0:9;0:9;0:9;0:9", "");
        Due.is("63 of six", six.criers(0, 63, 1), 1);
        Due.is("64 of six", six.criers(0, 64, 1), -1);
    }

    private static void debate() {
        Due.of("Promise 26", "Two debate with so many seconds left (0 .. 60 each), by turns, the first begins; each speaks as many seconds as the other one just did (1 at first) or more, k (1 .. 9) at most, no more than it has; who can't is silent: 1 if the first can have the last word (the other is silent first, whatever it does), else 0; the ROW: the fewest seconds to speak now by which it can (0: it can't).");
        ClockForTalk c = new ClockForTalk();
        // first, second, k, and the answer, which is the fewest seconds, too: one is enough where any are.
        int[][] due = {{0, 0, 1, 0}, {0, 0, 9, 0}, {1, 0, 1, 1}, {1, 0, 9, 1}, {0, 1, 1, 0}, {0, 60, 9, 0}, {60, 0, 1, 1}, {60, 0, 9, 1}, {1, 1, 1, 0}, {1, 1, 9, 0},
            {2, 1, 1, 1}, {2, 1, 9, 1}, {2, 2, 2, 0}, {3, 2, 2, 1}, {4, 3, 3, 1}, {3, 3, 3, 0}, {60, 59, 1, 1}, {60, 59, 9, 1}, {59, 60, 1, 0}, {59, 60, 9, 0}, {60, 60, 1, 0}, {60, 60, 9, 0}};
        for (int[] d : due) {
            String call = "debate(" + d[0] + ", " + d[1] + ", " + d[2] + ")";
            Due.is(call, c.debate(d[0], d[1], d[2]), d[3]);
            Due.row(call, c, d[3]);
        }

        Due.of("Promise 26", "NONE: others.");
        int[][] wrong = {{-1, 0, 1}, {61, 0, 1}, {0, -1, 1}, {0, 61, 1}, {1, 0, 0}, {1, 0, 10}, {1, 0, -1}, {61, 61, 10},
            {Integer.MAX_VALUE, 0, 1}, {0, Integer.MIN_VALUE, 1}, {1, 0, Integer.MAX_VALUE}, {1, 0, Integer.MIN_VALUE}};
        for (int[] w : wrong) Due.refused("debate(" + w[0] + ", " + w[1] + ", " + w[2] + ")", -1, x -> x.debate(w[0], w[1], w[2]));
    }

    private static void enough() {
        Due.of("Promise 27", "The fewest seconds (0 .. 60) with which the first can have the last word so against so many (0 .. 60) and k (1 .. 9): how many.");
        ClockForTalk c = Due.busy();
        int[][] due = {{0, 1, 1}, {0, 9, 1}, {1, 1, 2}, {2, 2, 3}, {30, 5, 31}, {59, 1, 60}, {59, 9, 60}};
        for (int[] d : due) Due.is("enough(" + d[0] + ", " + d[1] + ")", c.enough(d[0], d[1]), d[2]);
        Due.row("it tells no ROW", c, 12, 63);

        Due.of("Promise 27", "-2: not with 60;");
        for (int k = 1; k <= 9; k++) {
            int most = k;
            Due.refused("enough(60, " + k + ")", -2, x -> x.enough(60, most));
        }

        Due.of("Promise 27", "NONE: others.");
        int[][] wrong = {{-1, 1}, {61, 1}, {0, 0}, {0, 10}, {0, -1}, {61, 10}, {Integer.MAX_VALUE, 1}, {Integer.MIN_VALUE, 1}, {0, Integer.MAX_VALUE}, {0, Integer.MIN_VALUE}};
        for (int[] w : wrong) Due.refused("enough(" + w[0] + ", " + w[1] + ")", -1, x -> x.enough(w[0], w[1]));
    }
}
