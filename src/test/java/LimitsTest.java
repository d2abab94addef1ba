import java.util.Random;

/**
 * Texts drawn by fixed seeds so that they end close to the limit of their call (76, 40 or 60 signs), a sign of them
 * often another one: the class and the model must tell the same place, or the same number.
 */
public final class LimitsTest {
    private static final int TEXTS = 5000;

    private static Random draw;

    private static int upTo(int n) { return draw.nextInt(n); }

    private static String digits(int many) {
        boolean of0 = upTo(6) == 0;
        if (many == 1) return of0 ? "0" : "" + (1 + upTo(9));
        return of0 ? "0" + upTo(10) : "" + (10 + upTo(90));
    }

    private static String number() { return digits(1 + upTo(2)); }

    /** SECONDS are often of 0, or begin with one, where the limit is near: each may end a text. */
    private static String wish(boolean near) {
        String seconds = !near ? "" + (1 + upTo(99)) : upTo(2) == 0 ? "0" : "0" + upTo(10);
        return (upTo(40) == 0 ? "aa" : upTo(3) == 0 ? "ba" : "ab") + seconds + "-" + number() + "=" + number();
    }

    private static String things() {
        StringBuilder s = new StringBuilder(wish(false));
        while (s.length() < 80) s.append(';').append(wish(s.length() > 66));
        s.setLength(74 + upTo(7));
        return s.toString();
    }

    private static String expression() {
        StringBuilder s = new StringBuilder();
        int signs = 36 + upTo(9), open = 0;
        while (s.length() < signs) {
            if (upTo(4) == 0) s.append('-');
            int which = upTo(open < 4 || upTo(20) == 0 ? 5 : 4);
            if (which == 4) {
                s.append('(');
                open++;
                continue;
            }
            s.append(which == 0 ? "" + upTo(1000) : which == 1 ? "" + upTo(10) : "lwscdh".substring(which, which + 1));
            if (open > 0 && upTo(4) == 0) {
                s.append(')');
                open--;
            }
            s.append("+-*/+-*/<>=".charAt(upTo(upTo(4) == 0 ? 11 : 8)));
        }
        s.setLength(signs);
        return s.toString();
    }

    private static String acts() {
        StringBuilder s = new StringBuilder();
        int signs = 55 + upTo(12);
        while (s.length() < signs) {
            if (s.length() > 0) s.append(';');
            switch (upTo(4)) {
                case 0: s.append('s').append(upTo(10)).append(upTo(4)); break;
                case 1: s.append('b').append(upTo(10)); break;
                case 2: s.append('g').append((char) ('a' + upTo(6))).append((char) ('a' + upTo(6))).append(upTo(1000)); break;
                default: s.append('d').append(upTo(100));
            }
        }
        s.setLength(signs);
        return s.toString();
    }

    private static String spoiled(String text) {
        if (upTo(3) > 0) return text;
        StringBuilder s = new StringBuilder(text);
        int at = upTo(3) == 0 ? upTo(s.length()) : s.length() - 1 - upTo(8);
        s.setCharAt(at, "0123456789;:-=()<lwsbgdax".charAt(upTo(25)));
        return s.toString();
    }

    /** Each text is told to a class and a model of their own, for many are not refused. */
    private static void agree(String call, int seed) {
        draw = new Random(seed);
        ClockForTalk clock = Due.town("1:10;2:20", "");
        Model model = new Model();
        model.text = "1:10;2:20";
        model.people();
        String text = spoiled(call.equals("things") ? things() : call.equals("talk") ? acts() : expression());
        model.text = text;
        Due.is(call + " of " + text, asked(clock, call, text), due(model, call));
    }

    private static int asked(ClockForTalk clock, String call, String text) {
        switch (call) {
            case "things": return Due.things(clock, text);
            case "rule": return Due.rule(clock, text);
            case "rate": return Due.rate(clock, text);
            default: return Due.talk(clock, text);
        }
    }

    private static int due(Model model, String call) {
        switch (call) {
            case "things": return model.things();
            case "rule": return model.rule();
            case "rate": return model.rate();
            default: return model.talk();
        }
    }

    private static void agree(String call) {
        for (int seed = 1; seed <= TEXTS; seed++) agree(call, seed);
    }

    public static void main(String[] args) {
        Due.of("Promise 5", "-1 - p: likewise");
        agree("things");
        Due.of("Promise 6", "-1 - p: as people() (40 signs).");
        agree("rule");
        Due.of("Promise 35", "-10000 - p: the sign at p can't stand there (as rule()).");
        agree("rate");
        Due.of("Promise 17", "-1 - p: the sign at p can't stand there (as people(); 60 signs); nothing is done then.");
        agree("talk");
        Due.finish();
    }
}
