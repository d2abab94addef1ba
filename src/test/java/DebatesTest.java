/** Promises 26 and 27: debate, enough. */
public final class DebatesTest {
    public static void main(String[] args) {
        byHand();
        byDefinition();
        wrong();
        Due.finish();
    }

    private static void byHand() {
        Due.of("Promise 26", "1 if the first can have the last word (the other is silent first, whatever it does), else 0; the ROW: the fewest seconds to speak now by which it can (0: it can't).");
        ClockForTalk c = new ClockForTalk();
        int[][] due = {{0, 0, 1, 0}, {1, 0, 1, 1}, {1, 1, 1, 0}, {2, 1, 1, 1}, {2, 1, 2, 1}, {2, 2, 2, 0}, {3, 2, 2, 1}, {0, 60, 9, 0}, {60, 0, 9, 1}};
        for (int[] d : due) {
            String call = "26: debate(" + d[0] + ", " + d[1] + ", " + d[2] + ")";
            Due.is(call, c.debate(d[0], d[1], d[2]), d[3]);
            Due.row(call, c, d[3]);
        }
        // With 4 against 3 and up to 3 at once, 1 loses to 2 (3 left, the other 1), 2 wins.
        Due.is("26: a second more is not always enough by one second", c.debate(5, 4, 9), 1);
        Due.is("27: against 0", c.enough(0, 1), 1);
        Due.is("27: against 59 by one second at once", c.enough(59, 1), 60);
        Due.is("27: against 60 by one second at once", c.enough(60, 1), -2);
        c.debate(3, 2, 2);
        Due.is("27: against 2, two at once", c.enough(2, 2), 3);
        Due.row("27: the row stays", c, 1);
    }

    /** Who is to speak with so much, the other with so much, with at least so many seconds. */
    private static final byte[][][] KNOWN = new byte[61][61][10];

    private static boolean wins(int mine, int other, int least, int k) {
        if (KNOWN[mine][other][least] == 0) {
            boolean win = false;
            for (int t = least; t <= k && t <= mine && !win; t++) win = !wins(other, mine - t, t, k);
            KNOWN[mine][other][least] = (byte) (win ? 2 : 1);
        }
        return KNOWN[mine][other][least] == 2;
    }

    private static void byDefinition() {
        Due.of("Promise 26", "each speaks as many seconds as the other one just did (1 at first) or more, k (1 .. 9) at most, no more than it has; who can't is silent");
        ClockForTalk c = new ClockForTalk();
        for (int k = 1; k <= 9; k++) {
            for (byte[][] rows : KNOWN) for (byte[] row : rows) java.util.Arrays.fill(row, (byte) 0);
            for (int b = 0; b <= 60; b++) {
                int enough = -2;
                for (int a = 60; a >= 0; a--) {
                    int fewest = 0;
                    for (int t = Math.min(a, k); t > 0; t--) if (!wins(b, a - t, t, k)) fewest = t;
                    Due.is("26: debate(" + a + ", " + b + ", " + k + ")", c.debate(a, b, k), fewest > 0 ? 1 : 0);
                    Due.is("26: its row", c.row(0), fewest);
                    if (fewest > 0) enough = a;
                }
                Due.is("27: enough(" + b + ", " + k + ")", c.enough(b, k), enough);
            }
        }
    }

    private static void wrong() {
        Due.of("Promise 26", "NONE: others.");
        ClockForTalk c = new ClockForTalk();
        c.debate(3, 2, 2);
        Due.is("26: 61", c.debate(61, 0, 1), -1);
        Due.is("26: against 61", c.debate(0, 61, 1), -1);
        Due.is("26: -1", c.debate(-1, 0, 1), -1);
        Due.is("26: against -1", c.debate(0, -1, 1), -1);
        Due.is("26: k 0", c.debate(1, 1, 0), -1);
        Due.is("26: k 10", c.debate(1, 1, 10), -1);
        Due.row("26: the row stays", c, 1);
        Due.of("Promise 27", "NONE: others.");
        Due.is("27: 61", c.enough(61, 1), -1);
        Due.is("27: -1", c.enough(-1, 1), -1);
        Due.is("27: k 0", c.enough(1, 0), -1);
        Due.is("27: k 10", c.enough(1, 10), -1);
        Due.is("27: k MIN", c.enough(1, Integer.MIN_VALUE), -1);
    }
}
