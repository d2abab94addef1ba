import java.util.ArrayDeque;
import java.util.ArrayList;
import java.util.Arrays;
import java.util.HashMap;
import java.util.HashSet;
import java.util.List;
import java.util.Map;
import java.util.Set;
import java.util.TreeSet;
import java.util.regex.Matcher;
import java.util.regex.Pattern;

/**
 * The document once more, as simply and as differently as can be: texts by patterns and by an automaton,
 * questions by trying all there is. Nothing here is fast, and nothing is shared with the class.
 */
final class Model {
    static final int NONE = -1;
    static final int[] REACH = {1, 3, 9, 99};
    static final String USUAL = "l*(w=2)+l*2*(w=3)+(l+1)/2*(w=0)+(l+2)/3*(w=1)";

    static final class Loan {
        int lender, debtor, due;
        long owed;
        boolean ended;
        Loan copy() {
            Loan l = new Loan();
            l.lender = lender; l.debtor = debtor; l.due = due; l.owed = owed; l.ended = ended;
            return l;
        }
    }

    static final class State {
        int day;
        List<Integer> clocks = new ArrayList<>(), spent = new ArrayList<>();
        List<Long> losses = new ArrayList<>();
        List<Loan> loans = new ArrayList<>();
        Set<Integer> said = new TreeSet<>();
        State copy() {
            State s = new State();
            s.day = day;
            s.clocks.addAll(clocks); s.spent.addAll(spent); s.losses.addAll(losses);
            for (Loan l : loans) s.loans.add(l.copy());
            s.said.addAll(said);
            return s;
        }
    }

    static final class Thing { int who, whom, seconds, by, worth; }

    String text = "";
    List<Integer> row = new ArrayList<>();
    List<Integer> steps = new ArrayList<>(), yearly = new ArrayList<>();
    List<Thing> things = new ArrayList<>();
    String rule = "";
    State now = new State();
    ArrayDeque<State> past = new ArrayDeque<>();
    State[] kept = new State[2];
    List<String> grammar = new ArrayList<>();
    Map<Integer, Integer> readings = new HashMap<>();

    // ---- texts

    int sign(int v) {
        if (text.length() > 76) return NONE;
        text += "" + (char) (v >>> 24) + (char) (v >>> 16 & 255) + (char) (v >>> 8 & 255) + (char) (v & 255);
        return text.length();
    }

    boolean end(int n) {
        if (n < 0 || n > text.length()) return false;
        text = text.substring(0, n);
        return true;
    }

    String takeText() {
        String t = text;
        text = "";
        return t;
    }

    /** -1 - p of the first sign that can't stand, or 0 if all can. */
    static int fault(String t, Pattern whole, int limit) {
        for (int n = 0; n <= t.length(); n++) {
            if (n > limit) return -1 - limit;
            Matcher m = whole.matcher(t.substring(0, n));
            boolean full = m.matches();
            if (!full && !m.hitEnd()) return -n;
            if (n == t.length() && !full) return -1 - n;
        }
        return 0;
    }

    static Pattern lines(String line, int most) {
        if (most == 0) return Pattern.compile("");
        return Pattern.compile(line + "(;" + line + "){0," + (most - 1) + "}");
    }

    /** The same for LINES, of which a text with a ; behind the last for which there is room fails behind it. */
    static int faultOfLines(String t, String line, int most, int limit) {
        if (t.isEmpty()) return 0;
        int cut = -1;
        for (int i = 0, seen = 0; i < t.length(); i++) {
            if (t.charAt(i) == ';' && ++seen == most) { cut = i + 1; break; }
        }
        if (most == 0 && !t.isEmpty()) return -1;
        if (cut < 0) return fault(t, lines(line, most), limit);
        int ahead = fault(t.substring(0, cut - 1), lines(line, most), limit);
        return ahead != 0 ? ahead : -1 - Math.min(cut, limit);
    }

    static int linesOf(String t) {
        return t.isEmpty() ? 0 : t.split(";", -1).length;
    }

    void comes() {
        past.clear();
        kept = new State[2];
    }

    int people() {
        String t = takeText();
        int f = faultOfLines(t, "[0-9]{1,2}:[0-9]{1,3}", 6 - steps.size(), 76);
        if (f != 0) return f;
        if (t.isEmpty()) return 0;
        for (String line : t.split(";")) {
            String[] two = line.split(":");
            steps.add(Integer.parseInt(two[0]));
            yearly.add(Integer.parseInt(two[1]));
            now.clocks.add(Integer.parseInt(two[1]));
            now.spent.add(0);
            now.losses.add(0L);
        }
        comes();
        return linesOf(t);
    }

    int things() {
        String t = takeText();
        StringBuilder pairs = new StringBuilder();
        for (int i = 0; i < steps.size(); i++) {
            for (int j = 0; j < steps.size(); j++) {
                if (i != j) pairs.append(pairs.length() > 0 ? "|" : "").append((char) ('a' + i)).append((char) ('a' + j));
            }
        }
        String two = pairs.length() == 0 ? steps.size() == 1 ? "a(?!.|$)b" : "(?!.|$)b" : "(" + pairs + ")";
        String line = two + "(0[1-9]|[1-9][0-9]?)-[0-9]{1,2}=[0-9]{1,2}";
        int f = faultOfThings(t, line, 8 - things.size());
        if (f != 0) return f;
        if (t.isEmpty()) return 0;
        for (String l : t.split(";")) {
            Thing n = new Thing();
            n.who = l.charAt(0) - 'a';
            n.whom = l.charAt(1) - 'a';
            n.seconds = Integer.parseInt(l.substring(2, l.indexOf('-')));
            n.by = Integer.parseInt(l.substring(l.indexOf('-') + 1, l.indexOf('=')));
            n.worth = Integer.parseInt(l.substring(l.indexOf('=') + 1));
            things.add(n);
        }
        comes();
        return linesOf(t);
    }

    int faultOfThings(String t, String line, int room) {
        if (steps.size() < 2 && !t.isEmpty()) {
            if (room == 0 || steps.isEmpty() || t.charAt(0) != 'a') return -1;
            return -2;
        }
        int f = faultOfLines(t, line, room, 76);
        if (f == 0) return 0;
        int p = -1 - f;
        // SECONDS of 0 are told at the last digit, though another digit could come; but of more than 76 signs the first
        // 76 could go on by it.
        boolean both = p < t.length() && t.charAt(p) == '0';
        boolean tooLong = p == 76 && t.length() > 76;
        if (!both && !tooLong && p > 2 && t.charAt(p - 1) == '0' && Character.isLetter(t.charAt(p - 2))) return f + 1;
        return f;
    }

    int rule() {
        String t = takeText();
        int f = faultOfRule(t);
        if (f != 0) return f;
        rule = t;
        return 0;
    }

    static int faultOfRule(String t) {
        if (t.isEmpty()) return 0;
        ArrayDeque<Boolean> compared = new ArrayDeque<>();
        compared.push(false);
        int digits = 0;
        boolean wants = true;
        for (int i = 0; i < t.length(); i++) {
            if (i == 40) return -41;
            char c = t.charAt(i);
            boolean digit = c >= '0' && c <= '9';
            if (wants) {
                if (c == '-') continue;
                if (c == '(' && compared.size() <= 4) { compared.push(false); continue; }
                if (!digit && "lwscdh".indexOf(c) < 0) return -1 - i;
                wants = false;
                digits = digit ? 1 : 3;
            } else if (digit && digits < 3) {
                digits++;
            } else if ("+-*/".indexOf(c) >= 0) {
                wants = true;
            } else if ("<>=".indexOf(c) >= 0 && !compared.peek()) {
                compared.pop();
                compared.push(true);
                wants = true;
            } else if (c == ')' && compared.size() > 1) {
                compared.pop();
                digits = 3;
            } else {
                return -1 - i;
            }
        }
        return wants || compared.size() > 1 ? -1 - t.length() : 0;
    }

    // ---- what speech costs

    static int value(String e, Map<Character, Integer> given) {
        String[] levels = {"<>=", "+-", "*/"};
        for (String signs : levels) {
            int depth = 0;
            for (int i = e.length() - 1; i > 0; i--) {
                char c = e.charAt(i);
                if (c == ')') depth++;
                if (c == '(') depth--;
                char ahead = e.charAt(i - 1);
                boolean binary = ahead == ')' || Character.isLetterOrDigit(ahead);
                if (depth == 0 && signs.indexOf(c) >= 0 && binary) {
                    int a = value(e.substring(0, i), given), b = value(e.substring(i + 1), given);
                    switch (c) {
                        case '<': return a < b ? 1 : 0;
                        case '>': return a > b ? 1 : 0;
                        case '=': return a == b ? 1 : 0;
                        case '+': return a + b;
                        case '-': return a - b;
                        case '*': return a * b;
                        default: return b == 0 ? 0 : a / b;
                    }
                }
            }
        }
        if (e.charAt(0) == '-') return -value(e.substring(1), given);
        if (e.charAt(0) == '(') return value(e.substring(1, e.length() - 1), given);
        if (Character.isLetter(e.charAt(0))) return given.get(e.charAt(0));
        return Integer.parseInt(e);
    }

    int apart(int a, int b) {
        return Math.abs(steps.get(a) - steps.get(b));
    }

    int price(String by, int speaker, int l, int w, int s) {
        Map<Character, Integer> given = new HashMap<>();
        int h = 0;
        for (int i = 0; i < steps.size(); i++) {
            if (i != speaker && apart(i, speaker) <= REACH[w]) h++;
        }
        given.put('l', l);
        given.put('w', w);
        given.put('s', s);
        given.put('c', now.clocks.get(speaker));
        given.put('d', now.day % 100);
        given.put('h', h);
        int v = value(by.isEmpty() ? USUAL : by, given);
        return v < 0 ? 0 : v > 999 ? 999 : v;
    }

    boolean heard(int thing, int way) {
        Thing t = things.get(thing);
        return apart(t.who, t.whom) <= REACH[way];
    }

    int price(String by, int thing, int way) {
        Thing t = things.get(thing);
        return price(by, t.who, t.seconds, way, apart(t.who, t.whom));
    }

    int leastWay(String by, int thing) {
        int best = -1;
        for (int w = 0; w < 4; w++) {
            if (heard(thing, w) && (best < 0 || price(by, thing, w) < price(by, thing, best))) best = w;
        }
        return best;
    }

    int least(String by, int thing) {
        return price(by, thing, leastWay(by, thing));
    }

    boolean isThing(int i) { return i >= 0 && i < things.size(); }
    boolean isPerson(int i) { return i >= 0 && i < steps.size(); }
    boolean open(int thing) { return !now.said.contains(thing) && now.day % 100 <= things.get(thing).by; }

    // ---- the town

    int person(int p, int what) {
        if (!isPerson(p)) throw new java.util.NoSuchElementException();
        switch (what) {
            case 0: return steps.get(p);
            case 1: return now.clocks.get(p);
            case 2: return yearly.get(p);
            case 3: return now.spent.get(p);
            case 4: return (int) owes(p);
            case 5: { long sum = 0; for (Loan l : now.loans) if (!l.ended && l.lender == p) sum += l.owed; return (int) sum; }
            case 6: return (int) (long) now.losses.get(p);
            default: throw new java.util.NoSuchElementException();
        }
    }

    long owes(int p) {
        long sum = 0;
        for (Loan l : now.loans) if (!l.ended && l.debtor == p) sum += l.owed;
        return sum;
    }

    int thing(int i, int what) {
        if (!isThing(i)) throw new java.util.NoSuchElementException();
        Thing t = things.get(i);
        switch (what) {
            case 0: return t.who;
            case 1: return t.whom;
            case 2: return t.seconds;
            case 3: return t.by;
            case 4: return t.worth;
            case 5: return now.said.contains(i) ? 1 : 0;
            case 6: return apart(t.who, t.whom);
            case 7: return leastWay(rule, i);
            default: throw new java.util.NoSuchElementException();
        }
    }

    int loan(int i, int what) {
        if (i < 0 || i >= now.loans.size()) throw new java.util.NoSuchElementException();
        Loan l = now.loans.get(i);
        switch (what) {
            case 0: return l.lender;
            case 1: return l.debtor;
            case 2: return (int) l.owed;
            case 3: return l.due;
            case 4: return l.ended ? 1 : 0;
            default: throw new java.util.NoSuchElementException();
        }
    }

    int move(int p, int step) {
        if (!isPerson(p) || step < 0 || step > 99) return NONE;
        return steps.set(p, step);
    }

    int sheet(int kind, int n, int f, int step) {
        if (kind < 0 || kind > 3 || n > 6) return NONE;
        if (kind == 3) {
            for (int i = 0; i < steps.size(); i++) now.clocks.set(i, 0);
            return -3;
        }
        if (n < 0) return -2;
        for (int i = 0; i < steps.size(); i++) {
            int e = f + i * step;
            if (kind == 0) e = (byte) e;
            if (kind == 1) e = (short) e;
            now.clocks.set(i, i >= n ? 0 : e < 0 ? 0 : e > 9999 ? 9999 : e);
        }
        return allClocks();
    }

    int allClocks() {
        int sum = 0;
        for (int c : now.clocks) sum += c;
        return sum;
    }

    // ---- talk

    int cost(int thing, int way) {
        if (!isThing(thing) || way < 0 || way > 3) return NONE;
        return heard(thing, way) ? price(rule, thing, way) : -2;
    }

    int trySay(int thing, int way) {
        if (!isThing(thing) || way < 0 || way > 3) return NONE;
        Thing t = things.get(thing);
        if (now.said.contains(thing)) return -2;
        if (t.by < now.day % 100) return -3;
        if (!heard(thing, way)) return -4;
        int p = price(rule, thing, way);
        if (now.clocks.get(t.who) < p) return -5;
        now.clocks.set(t.who, now.clocks.get(t.who) - p);
        now.spent.set(t.who, now.spent.get(t.who) + p);
        now.said.add(thing);
        return p;
    }

    int tryGive(int from, int to, int n) {
        if (!isPerson(from) || !isPerson(to) || from == to || n < 1 || n > 9999) return NONE;
        if (now.clocks.get(from) < n) return -2;
        now.clocks.set(from, now.clocks.get(from) - n);
        now.clocks.set(to, Math.min(9999, now.clocks.get(to) + n));
        return now.clocks.get(to);
    }

    int remember(State before, int answer) {
        if (answer >= 0) {
            past.addLast(before);
            if (past.size() > 12) past.removeFirst();
        }
        return answer;
    }

    int say(int thing, int way) {
        State before = now.copy();
        return remember(before, trySay(thing, way));
    }

    int give(int from, int to, int n) {
        State before = now.copy();
        return remember(before, tryGive(from, to, n));
    }

    int lend(int from, int to, int n, int due) {
        if (!isPerson(from) || !isPerson(to) || from == to || n < 1 || n > 999) return NONE;
        if (now.loans.size() == 6) return -3;
        if (due <= now.day || due > 9999) return -4;
        State before = now.copy();
        if (tryGive(from, to, n) < 0) return -2;
        Loan l = new Loan();
        l.lender = from;
        l.debtor = to;
        l.owed = n;
        l.due = due;
        now.loans.add(l);
        return remember(before, now.loans.size() - 1);
    }

    /** What was lost in this day, and in endedNow how many LOANS ended. */
    long passDay(int[] endedNow) {
        long lost = 0;
        now.day++;
        for (Loan l : now.loans) if (!l.ended && now.day % 30 == 0) l.owed += l.owed / 10;
        for (Loan l : now.loans) {
            if (l.ended || l.due != now.day) continue;
            long pay = Math.min(l.owed, now.clocks.get(l.debtor));
            now.clocks.set(l.debtor, (int) (now.clocks.get(l.debtor) - pay));
            now.clocks.set(l.lender, (int) Math.min(9999, now.clocks.get(l.lender) + pay));
            now.losses.set(l.lender, now.losses.get(l.lender) + l.owed - pay);
            lost += l.owed - pay;
            l.ended = true;
            endedNow[0]++;
        }
        if (now.day % 100 == 0) {
            for (int i = 0; i < steps.size(); i++) {
                now.clocks.set(i, yearly.get(i));
                now.spent.set(i, 0);
            }
            now.said.clear();
        }
        return lost;
    }

    int days(int n) {
        if (n < 0 || n > 99) return NONE;
        State before = now.copy();
        int[] ended = new int[1];
        long lost = 0;
        for (int i = 0; i < n; i++) lost += passDay(ended);
        if (n > 0) remember(before, 0);
        row = new ArrayList<>(List.of(ended[0], (int) lost));
        return now.day;
    }

    int talk() {
        String t = takeText();
        int f = faultOfLines(t, "(s[0-9][0-3]|b[0-9]|g[a-f][a-f][0-9]{1,3}|d[0-9]{1,2})", 60, 60);
        if (f != 0) return f;
        State before = now.copy();
        int done = 0, cost = 0, stopped = 0;
        for (String act : t.isEmpty() ? new String[0] : t.split(";")) {
            int a;
            String rest = act.substring(1);
            if (act.charAt(0) == 's') {
                a = trySay(rest.charAt(0) - '0', rest.charAt(1) - '0');
            } else if (act.charAt(0) == 'b') {
                int i = rest.charAt(0) - '0';
                a = isThing(i) ? trySay(i, leastWay(rule, i)) : NONE;
            } else if (act.charAt(0) == 'g') {
                a = tryGive(rest.charAt(0) - 'a', rest.charAt(1) - 'a', Integer.parseInt(rest.substring(2)));
            } else {
                for (int i = 0; i < Integer.parseInt(rest); i++) passDay(new int[1]);
                a = 0;
            }
            if (a < 0) { stopped = 1; break; }
            if ("sb".indexOf(act.charAt(0)) >= 0) cost += a;
            done++;
        }
        if (done > 0) remember(before, 0);
        row = new ArrayList<>(List.of(stopped, cost));
        return done;
    }

    int undo() {
        if (past.isEmpty()) return NONE;
        now = past.removeLast();
        return past.size();
    }

    // ---- what to say

    List<Integer> openOf(int person) {
        List<Integer> those = new ArrayList<>();
        for (int i = 0; i < things.size(); i++) {
            if (open(i) && (person < 0 || things.get(i).who == person)) those.add(i);
        }
        return those;
    }

    /** WORTH, bits, cost. */
    int[] best(String by, List<Integer> among, int budget) {
        int[] best = {0, 0, 0};
        for (int bits = 0; bits < 1 << 8; bits++) {
            int worth = 0, cost = 0;
            boolean can = true;
            for (int i = 0; i < 8; i++) {
                if ((bits & 1 << i) == 0) continue;
                if (!among.contains(i)) { can = false; break; }
                worth += things.get(i).worth;
                cost += least(by, i);
            }
            if (can && cost <= budget && (worth > best[0] || worth == best[0] && cost < best[2])) best = new int[] {worth, bits, cost};
        }
        return best;
    }

    int best(int person) {
        if (!isPerson(person)) return NONE;
        int[] b = best(rule, openOf(person), now.clocks.get(person));
        row = new ArrayList<>(List.of(b[1], b[2]));
        return b[0];
    }

    int lacks(int person) {
        if (!isPerson(person)) return NONE;
        int need = 0;
        for (int i : openOf(person)) need += least(rule, i);
        row = new ArrayList<>(List.of(need, openOf(person).size()));
        return need > now.clocks.get(person) ? need - now.clocks.get(person) : 0;
    }

    int pool() {
        int[] b = best(rule, openOf(-1), allClocks());
        row = new ArrayList<>(List.of(b[1], b[2]));
        return b[0];
    }

    int gifts(int those) {
        for (int i = 0; i < 32; i++) if ((those >>> i & 1) == 1 && i >= things.size()) return NONE;
        int[] need = new int[steps.size()];
        int all = 0;
        for (int i = 0; i < things.size(); i++) {
            if ((those & 1 << i) == 0) continue;
            if (!open(i)) return -2;
            need[things.get(i).who] += least(rule, i);
            all += least(rule, i);
        }
        if (all > allClocks()) return -2;
        int given = 0, lack = 0;
        for (int i = 0; i < need.length; i++) {
            if (need[i] > now.clocks.get(i)) { given += need[i] - now.clocks.get(i); lack++; }
        }
        row = new ArrayList<>(List.of(lack));
        return given;
    }

    int mute() {
        for (int by = 0; by < 100; by++) {
            for (int i : openOf(-1)) {
                int clock = now.clocks.get(things.get(i).who);
                if (things.get(i).by == by && least(rule, i) > clock) {
                    row = new ArrayList<>(List.of(least(rule, i), clock));
                    return i;
                }
            }
        }
        return -2;
    }

    // ---- word passed on

    int relay(int from, int to, int n) {
        if (!isPerson(from) || !isPerson(to) || n < 1 || n > 99) return NONE;
        List<List<Integer>> rows = new ArrayList<>();
        Map<List<Integer>, Integer> cost = new HashMap<>();
        List<Integer> start = new ArrayList<>(List.of(from));
        cost.put(start, 0);
        ArrayDeque<List<Integer>> open = new ArrayDeque<>(List.of(start));
        while (!open.isEmpty()) {
            List<Integer> chain = open.remove();
            int last = chain.get(chain.size() - 1);
            if (last == to) { rows.add(chain); continue; }
            for (int next = steps.size() - 1; next >= 0; next--) {
                if (chain.contains(next)) continue;
                int price = Integer.MAX_VALUE;
                for (int w = 0; w < 4; w++) {
                    if (apart(last, next) <= REACH[w]) price = Math.min(price, price(rule, last, n, w, apart(last, next)));
                }
                if (price > now.clocks.get(last)) continue;
                List<Integer> longer = new ArrayList<>(chain);
                longer.add(next);
                cost.put(longer, cost.get(chain) + price);
                open.add(longer);
            }
        }
        if (rows.isEmpty()) return -2;
        rows.sort((x, y) -> cost.get(x).equals(cost.get(y)) ? compare(x, y) : cost.get(x) - cost.get(y));
        row = new ArrayList<>(rows.get(0));
        return cost.get(rows.get(0));
    }

    static int compare(List<Integer> x, List<Integer> y) {
        for (int i = 0; i < x.size() && i < y.size(); i++) {
            if (!x.get(i).equals(y.get(i))) return x.get(i) - y.get(i);
        }
        return x.size() - y.size();
    }

    int criers(int from, int those, int n) {
        if (!isPerson(from) || n < 1 || n > 99 || those < 0 || those >= 1 << steps.size()) return NONE;
        // All pairs of (who knows, who has spoken) that can come about, by any WAY that can be paid.
        Set<Integer> seen = new HashSet<>();
        ArrayDeque<Integer> open = new ArrayDeque<>();
        seen.add(1 << from);
        open.add(1 << from);
        int best = -1;
        while (!open.isEmpty()) {
            int at = open.remove(), knows = at & 63, spoke = at >> 6;
            if ((those & ~knows) == 0) {
                int a = Integer.bitCount(spoke), b = best < 0 ? 99 : Integer.bitCount(best);
                if (a < b || a == b && spoke < best) best = spoke;
            }
            for (int p = 0; p < steps.size(); p++) {
                if ((knows >> p & 1) == 0 || (spoke >> p & 1) == 1) continue;
                for (int w = 0; w < 4; w++) {
                    if (price(rule, p, n, w, 0) > now.clocks.get(p)) continue;
                    int then = knows;
                    for (int q = 0; q < steps.size(); q++) if (apart(p, q) <= REACH[w]) then |= 1 << q;
                    if (seen.add((spoke | 1 << p) << 6 | then)) open.add((spoke | 1 << p) << 6 | then);
                }
            }
        }
        if (best < 0) return -2;
        row = new ArrayList<>(List.of(best));
        return Integer.bitCount(best);
    }

    // ---- debates

    static final Map<Integer, Boolean> TURNS = new HashMap<>();

    static boolean wins(int mine, int other, int least, int k) {
        int key = ((mine * 61 + other) * 10 + least) * 10 + k;
        Boolean known = TURNS.get(key);
        if (known != null) return known;
        boolean win = false;
        for (int t = least; t <= k && t <= mine && !win; t++) win = !wins(other, mine - t, t, k);
        TURNS.put(key, win);
        return win;
    }

    int debate(int first, int second, int k) {
        if (first < 0 || first > 60 || second < 0 || second > 60 || k < 1 || k > 9) return NONE;
        int fewest = 0;
        for (int t = Math.min(first, k); t >= 1; t--) if (!wins(second, first - t, t, k)) fewest = t;
        row = new ArrayList<>(List.of(fewest));
        return wins(first, second, 1, k) ? 1 : 0;
    }

    int enough(int second, int k) {
        if (second < 0 || second > 60 || k < 1 || k > 9) return NONE;
        for (int first = 0; first <= 60; first++) if (wins(first, second, 1, k)) return first;
        return -2;
    }

    // ---- wordings

    int grammar() {
        String t = takeText();
        int f = faultOfLines(t, "[a-g][a-g]>[a-g]", 10, 80);
        if (f != 0) return f;
        grammar = t.isEmpty() ? new ArrayList<>() : Arrays.asList(t.split(";"));
        return grammar.size();
    }

    static int faultOfWording(String t) {
        int f = fault(t, Pattern.compile("[a-g]{1,14}"), 80);
        return f;
    }

    Set<String> reachable(String t) {
        Set<String> seen = new HashSet<>(Set.of(t));
        ArrayDeque<String> open = new ArrayDeque<>(seen);
        while (!open.isEmpty()) {
            String s = open.remove();
            for (String line : grammar) {
                for (int i = s.indexOf(line.substring(0, 2)); i >= 0; i = s.indexOf(line.substring(0, 2), i + 1)) {
                    String u = s.substring(0, i) + line.charAt(3) + s.substring(i + 2);
                    if (seen.add(u)) open.add(u);
                }
            }
        }
        return seen;
    }

    int shorter() {
        String t = takeText();
        int f = faultOfWording(t);
        if (f != 0) return f;
        String best = t;
        for (String s : reachable(t)) {
            if (s.length() < best.length() || s.length() == best.length() && s.compareTo(best) < 0) best = s;
        }
        row = new ArrayList<>();
        for (char c : best.toCharArray()) row.add(c - 'a');
        return best.length();
    }

    int becomes() {
        String t = takeText();
        int f = faultOfWording(t);
        if (f != 0) return f;
        int bits = 0;
        for (String s : reachable(t)) if (s.length() == 1) bits |= 1 << s.charAt(0) - 'a';
        return bits;
    }

    // ---- dusk

    int read(int p, int v) {
        if (!isPerson(p) || v < 0 || v > 9999) return NONE;
        readings.put(p, v);
        return readings.size();
    }

    int forget() {
        int n = readings.size();
        readings.clear();
        return n;
    }

    /** Every set with every sum of seconds by which it can be said. */
    Map<Integer, Set<Integer>> days(List<Integer> those) {
        Map<Integer, Set<Integer>> all = new HashMap<>();
        all.put(0, new TreeSet<>(Set.of(0)));
        for (int i : those) {
            Map<Integer, Set<Integer>> more = new HashMap<>(all);
            for (Map.Entry<Integer, Set<Integer>> e : all.entrySet()) {
                Set<Integer> sums = new TreeSet<>();
                for (int w = 0; w < 4; w++) {
                    if (heard(i, w)) for (int s : e.getValue()) sums.add(s + price(rule, i, w));
                }
                more.put(e.getKey() | 1 << i, sums);
            }
            all = more;
        }
        return all;
    }

    int spoke(int p) {
        if (!isPerson(p)) return NONE;
        if (!readings.containsKey(p)) return -2;
        int went = now.clocks.get(p) - readings.get(p);
        int many = 0, first = NONE, both = 0;
        for (Map.Entry<Integer, Set<Integer>> e : new java.util.TreeMap<>(days(openOf(p))).entrySet()) {
            if (!e.getValue().contains(went)) continue;
            first = many == 0 ? e.getKey() : first;
            both = many == 0 ? e.getKey() : both & e.getKey();
            many++;
        }
        row = new ArrayList<>(List.of(first, both));
        return many;
    }

    int look() {
        int best = -2, most = -1;
        for (int p = 0; p < steps.size(); p++) {
            if (readings.containsKey(p)) continue;
            Set<Integer> shown = new HashSet<>();
            for (Set<Integer> sums : days(openOf(p)).values()) {
                for (int s : sums) if (s <= now.clocks.get(p)) shown.add(now.clocks.get(p) - s);
            }
            if (shown.size() > most) { most = shown.size(); best = p; }
        }
        if (best >= 0) row = new ArrayList<>(List.of(most));
        return best;
    }

    // ---- rates, losses, years

    int bestOfAll(String by) {
        int sum = 0;
        for (int p = 0; p < steps.size(); p++) sum += best(by, openOf(p), now.clocks.get(p))[0];
        return sum;
    }

    int rate() {
        String t = takeText();
        int f = faultOfRule(t);
        if (f != 0) return -10000 - (-1 - f);
        int a = bestOfAll(t), b = bestOfAll(rule);
        row = new ArrayList<>(List.of(a, b));
        return a - b;
    }

    int run(int p) {
        if (!isPerson(p)) return NONE;
        Set<Integer> out = new TreeSet<>();
        if (owes(p) > 0) out.add(p);
        boolean grew = true;
        while (grew) {
            grew = false;
            for (int q = 0; q < steps.size(); q++) {
                if (out.contains(q)) continue;
                boolean lent = false;
                long sure = now.clocks.get(q);
                for (Loan l : now.loans) {
                    if (l.ended || l.lender != q) continue;
                    if (out.contains(l.debtor)) lent = true;
                    else sure += l.owed;
                }
                if (lent && sure < owes(q)) { out.add(q); grew = true; }
            }
        }
        int bits = 0;
        long owe = 0;
        for (int q : out) { bits |= 1 << q; owe += owes(q); }
        row = new ArrayList<>(List.of(out.size(), (int) owe));
        return bits;
    }

    int years(int seed, int n) {
        if (n < 1 || n > 60) return NONE;
        State before = now;
        now = now.copy();
        int r = seed, many = 0, cost = 0, worth = 0;
        for (int i = 0; i < n; i++) {
            r = r * 1103515245 + 12345;
            int t = (int) ((r & 0xffffffffL) / 65536 % 10);
            if (isThing(t)) {
                int a = trySay(t, leastWay(rule, t));
                if (a >= 0) { many++; cost += a; worth += things.get(t).worth; }
            }
            passDay(new int[1]);
        }
        now = before;
        row = new ArrayList<>(List.of(cost, worth));
        return many;
    }

    // ---- kept

    boolean keep(int i) {
        if (i < 0 || i > 1) return false;
        kept[i] = now.copy();
        return true;
    }

    boolean again(int i) {
        if (i < 0 || i > 1 || kept[i] == null) return false;
        now = kept[i].copy();
        past.clear();
        return true;
    }

    int count(int what) {
        switch (what) {
            case 0: return steps.size();
            case 1: return things.size();
            case 2: return now.day;
            case 3: return now.loans.size();
            case 4: return bits(now.said);
            case 5: return bits(openOf(-1));
            case 6: return allClocks();
            case 7: return grammar.size();
            case 8: return bits(readings.keySet());
            case 9: return past.size();
            case 10: return row.size();
            case 11: return text.length();
            default: return NONE;
        }
    }

    static int bits(Iterable<Integer> those) {
        int bits = 0;
        for (int i : those) bits |= 1 << i;
        return bits;
    }

    int row(int i) {
        if (i < 0 || i >= row.size()) throw new java.util.NoSuchElementException();
        return row.get(i);
    }
}
