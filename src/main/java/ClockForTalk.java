import java.util.NoSuchElementException;

/**
 * A clock for talk: each has so many seconds of speech, banked, lent, spent aloud.
 * The document in ../shared/DOC.md says what each call answers.
 */
public final class ClockForTalk {
    public static final int NONE = -1;

    private static final int PEOPLE_ROOM = 6;
    private static final int THINGS_ROOM = 8;
    private static final int LOANS_ROOM = 6;
    private static final int LINES_ROOM = 10;
    private static final int ACTS_ROOM = 40;
    private static final int ACT_PARTS = 4;
    private static final int SIGNS_ROOM = 80;
    private static final int WORDING_ROOM = 14;
    private static final int ROW_ROOM = 14;
    private static final int WAYS = 4;
    private static final int SETS_OF_THINGS = 1 << THINGS_ROOM;

    private static final int MOST_SECONDS = 9999;
    private static final int MOST_COST = 999;
    private static final int LATEST_DUE = 9999;
    private static final int LETTERS = 7;
    private static final int FURTHEST_STEP = 99;
    private static final int LONGEST_WORD = 99;
    private static final int MOST_LEFT = 60;
    private static final int MOST_AT_ONCE = 9;
    private static final int DRAW_OF = 10;

    private static final int TOWN_LIMIT = 76;
    private static final int RULE_LIMIT = 40;
    private static final int TALK_LIMIT = 60;

    // What a text may tell of; readText() chooses the reader by it.
    private static final int TELLS_PEOPLE = 0;
    private static final int TELLS_THINGS = 1;
    private static final int TELLS_ACTS = 2;
    private static final int TELLS_GRAMMAR = 3;
    private static final int TELLS_RULE = 4;
    private static final int TELLS_WORDING = 5;

    private final Text text = new Text();
    private final Row told = new Row();
    private final Town town = new Town();
    private final Ledger ledger = new Ledger();
    private final History past = new History();
    private final Rule law = new Rule();
    private final Rule otherLaw = new Rule();
    private final Costs costs;
    private final Costs otherCosts;
    private final WordOfMouth mouths;
    private final Wordings wordings = new Wordings();
    private final Dusk dusk;
    private final int[] acts = new int[ACTS_ROOM * ACT_PARTS];

    public ClockForTalk() {
        costs = new Costs(town, ledger, law);
        otherCosts = new Costs(town, ledger, otherLaw);
        mouths = new WordOfMouth(town, ledger, costs);
        dusk = new Dusk(town, ledger, costs);
    }

    // ---- the town, things to say

    public int sign(int v) {
        return text.addFour(v) ? text.length : NONE;
    }

    public boolean end(int n) {
        return text.cutTo(n);
    }

    public int people() {
        int lines = readText(TELLS_PEOPLE, PEOPLE_ROOM - town.persons, TOWN_LIMIT);
        if (lines > 0) {
            ledger.welcome(town, lines);
            town.persons += lines;
            past.clearAll();
        }
        return lines;
    }

    public int things() {
        int lines = readText(TELLS_THINGS, THINGS_ROOM - town.wishes, TOWN_LIMIT);
        if (lines > 0) {
            town.wishes += lines;
            past.clearAll();
        }
        return lines;
    }

    public int rule() {
        int answer = readText(TELLS_RULE, 0, RULE_LIMIT);
        if (answer >= 0) {
            law.copyFrom(otherLaw);
        }
        return answer;
    }

    public int person(int person, int what) throws NoSuchElementException {
        if (!town.hasPerson(person) || !within(what, 0, 6)) {
            throw new NoSuchElementException("no such person, or nothing such of one");
        }
        switch (what) {
            case 0:
                return at(town.steps, person);
            case 1:
                return at(ledger.clocks, person);
            case 2:
                return at(town.yearly, person);
            case 3:
                return at(ledger.spent, person);
            case 4:
                return (int) ledger.owedBy(person);
            case 5:
                return (int) ledger.owedTo(person);
            default:
                return (int) wordAt(ledger.losses, person);
        }
    }

    public int thing(int thing, int what) throws NoSuchElementException {
        if (!town.hasThing(thing) || !within(what, 0, 7)) {
            throw new NoSuchElementException("no such thing, or nothing such of one");
        }
        switch (what) {
            case 0:
                return at(town.who, thing);
            case 1:
                return at(town.whom, thing);
            case 2:
                return at(town.seconds, thing);
            case 3:
                return at(town.by, thing);
            case 4:
                return at(town.worth, thing);
            case 5:
                return holds(ledger.said, thing) ? 1 : 0;
            case 6:
                return town.apartFor(thing);
            default:
                return costs.leastWay(thing);
        }
    }

    public int loan(int loan, int what) throws NoSuchElementException {
        if (!within(loan, 0, ledger.loans - 1) || !within(what, 0, 4)) {
            throw new NoSuchElementException("no such loan, or nothing such of one");
        }
        switch (what) {
            case 0:
                return at(ledger.lenders, loan);
            case 1:
                return at(ledger.debtors, loan);
            case 2:
                return (int) wordAt(ledger.owed, loan);
            case 3:
                return at(ledger.due, loan);
            default:
                return holds(ledger.ended, loan) ? 1 : 0;
        }
    }

    public int move(int person, int step) {
        if (!town.hasPerson(person) || !within(step, 0, FURTHEST_STEP)) {
            return NONE;
        }
        int before = at(town.steps, person);
        put(town.steps, person, step);
        return before;
    }

    public int sheet(int kind, int n, int f, int step) {
        if (!within(kind, 0, 3) || n > PEOPLE_ROOM) {
            return NONE;
        }
        if (kind != 3 && n < 0) {
            return -2;
        }
        int entries = kind == 3 ? 0 : n;
        for (int i = 0; i < town.persons; i++) {
            put(ledger.clocks, i, i < entries ? entryOf(kind, f + i * step) : 0);
        }
        return kind == 3 ? -3 : ledger.allClocks(town.persons);
    }

    // ---- talk

    public int cost(int thing, int way) {
        if (!town.hasThing(thing) || !within(way, 0, WAYS - 1)) {
            return NONE;
        }
        return costs.isHeard(thing, way) ? costs.ofThing(thing, way) : -2;
    }

    public int say(int thing, int way) {
        past.note(ledger);
        return held(utter(thing, way));
    }

    public int give(int from, int to, int n) {
        past.note(ledger);
        return held(handOver(from, to, n));
    }

    public int lend(int from, int to, int n, int due) {
        if (!town.areTwo(from, to) || !within(n, 1, MOST_COST)) {
            return NONE;
        }
        if (ledger.loans >= LOANS_ROOM) {
            return -3;
        }
        if (!within(due, ledger.day + 1, LATEST_DUE)) {
            return -4;
        }
        if (at(ledger.clocks, from) < n) {
            return -2;
        }
        past.note(ledger);
        ledger.carry(from, to, n);
        return held(ledger.write(from, to, n, due));
    }

    public int days(int n) {
        if (!within(n, 0, 99)) {
            return NONE;
        }
        past.note(ledger);
        int endedBefore = ledger.endedLoans();
        long lostBefore = ledger.allLosses();
        passDays(n);
        told.tellTwo(ledger.endedLoans() - endedBefore, (int) (ledger.allLosses() - lostBefore));
        if (n > 0) {
            past.hold();
        }
        return ledger.day;
    }

    public int talk() {
        int many = readText(TELLS_ACTS, ACTS_ROOM, TALK_LIMIT);
        if (many < 0) {
            return many;
        }
        past.note(ledger);
        int done = 0;
        int spoken = 0;
        for (int act = 0; act < many; act++) {
            int answer = doAct(act);
            if (answer < 0) {
                break;
            }
            spoken += isSpeech(act) ? answer : 0;
            done++;
        }
        if (done > 0) {
            past.hold();
        }
        told.tellTwo(done < many ? 1 : 0, spoken);
        return done;
    }

    public int undo() {
        return past.stepBack(ledger) ? past.held : NONE;
    }

    // ---- what to say

    public int best(int person) {
        if (!town.hasPerson(person)) {
            return NONE;
        }
        costs.fill();
        costs.chooseFor(person);
        told.tellTwo(costs.chosen, costs.chosenCost);
        return costs.chosenWorth;
    }

    public int lacks(int person) {
        if (!town.hasPerson(person)) {
            return NONE;
        }
        costs.fill();
        int wished = costs.openThingsOf(person);
        int price = costs.leastOfAll(wished);
        told.tellTwo(price, Integer.bitCount(wished));
        return Math.max(0, price - at(ledger.clocks, person));
    }

    public int pool() {
        costs.fill();
        costs.choose(costs.openThings(), ledger.allClocks(town.persons));
        told.tellTwo(costs.chosen, costs.chosenCost);
        return costs.chosenWorth;
    }

    public int gifts(int those) {
        if (!areBitsOf(those, town.wishes)) {
            return NONE;
        }
        costs.fill();
        if ((those & ~costs.openThings()) != 0) {
            return -2;
        }
        if (costs.leastOfAll(those) > ledger.allClocks(town.persons)) {
            return -2;
        }
        int given = 0;
        int poor = 0;
        for (int i = 0; i < town.persons; i++) {
            int missing = costs.leastOfAll(those & town.thingsOf(i)) - at(ledger.clocks, i);
            if (missing > 0) {
                given += missing;
                poor++;
            }
        }
        told.tell(poor);
        return given;
    }

    public int mute() {
        costs.fill();
        int first = costs.firstUnpayable();
        if (first < 0) {
            return -2;
        }
        told.tellTwo(at(costs.least, first), at(ledger.clocks, at(town.who, first)));
        return first;
    }

    // ---- word passed on

    public int relay(int from, int to, int n) {
        if (!town.hasPerson(from) || !town.hasPerson(to) || !within(n, 1, LONGEST_WORD)) {
            return NONE;
        }
        mouths.findChain(from, to, n);
        if (mouths.bestLength == 0) {
            return -2;
        }
        told.tellAll(mouths.bestPath, 0, mouths.bestLength);
        return mouths.bestCost;
    }

    public int criers(int from, int those, int n) {
        if (!town.hasPerson(from) || !areBitsOf(those, town.persons) || !within(n, 1, LONGEST_WORD)) {
            return NONE;
        }
        int speakers = mouths.fewestCriers(from, those, n);
        if (speakers < 0) {
            return -2;
        }
        told.tell(speakers);
        return Integer.bitCount(speakers);
    }

    // ---- debates

    public int debate(int first, int second, int k) {
        if (!within(first, 0, MOST_LEFT) || !within(second, 0, MOST_LEFT) || !within(k, 1, MOST_AT_ONCE)) {
            return NONE;
        }
        // Who has no less left behind its own turn than the other one can go on answering with just as many seconds
        // as that one spoke; so the first can have the last word just if it has more, and begins with one second.
        int last = first > second ? 1 : 0;
        told.tell(last);
        return last;
    }

    public int enough(int second, int k) {
        if (!within(second, 0, MOST_LEFT) || !within(k, 1, MOST_AT_ONCE)) {
            return NONE;
        }
        // One second more than the other one has is enough, and no less is: see debate().
        return second < MOST_LEFT ? second + 1 : -2;
    }

    // ---- wordings

    public int grammar() {
        int lines = readText(TELLS_GRAMMAR, LINES_ROOM, SIGNS_ROOM);
        if (lines >= 0) {
            wordings.adopt(lines);
        }
        return lines;
    }

    public int shorter() {
        int length = readText(TELLS_WORDING, WORDING_ROOM, WORDING_ROOM);
        if (length < 0) {
            return length;
        }
        wordings.fillMasks(length);
        int fewest = wordings.shorten(length);
        told.tellAll(wordings.rows, 0, fewest);
        return fewest;
    }

    public int becomes() {
        int length = readText(TELLS_WORDING, WORDING_ROOM, WORDING_ROOM);
        if (length < 0) {
            return length;
        }
        wordings.fillMasks(length);
        return wordings.mask(0, length);
    }

    // ---- clocks that were read at dusk

    public int read(int person, int v) {
        if (!town.hasPerson(person) || !within(v, 0, MOST_SECONDS)) {
            return NONE;
        }
        dusk.note(person, v);
        return Integer.bitCount(dusk.readBits);
    }

    public int forget() {
        int many = Integer.bitCount(dusk.readBits);
        dusk.readBits = 0;
        return many;
    }

    public int spoke(int person) {
        if (!town.hasPerson(person)) {
            return NONE;
        }
        if (!holds(dusk.readBits, person)) {
            return -2;
        }
        costs.fill();
        dusk.explain(person);
        told.tellTwo(dusk.leastSet, dusk.inAll);
        return dusk.explained;
    }

    public int look() {
        costs.fill();
        int most = 0;
        int first = NONE;
        for (int i = 0; i < town.persons; i++) {
            int shown = holds(dusk.readBits, i) ? 0 : dusk.differentReadings(i);
            if (shown > most) {
                most = shown;
                first = i;
            }
        }
        if (first < 0) {
            return -2;
        }
        told.tell(most);
        return first;
    }

    // ---- rates, losses

    public int rate() {
        int answer = readText(TELLS_RULE, 0, RULE_LIMIT);
        if (answer < 0) {
            return answer - 9999;
        }
        int other = bestOfAll(otherCosts);
        int now = bestOfAll(costs);
        told.tellTwo(other, now);
        return other - now;
    }

    public int run(int person) {
        if (!town.hasPerson(person)) {
            return NONE;
        }
        int struck = ledger.struckWith(person, town.persons);
        told.tellTwo(Integer.bitCount(struck), (int) ledger.owedByAll(struck));
        return struck;
    }

    // ---- years

    public int years(int seed, int n) {
        if (!within(n, 1, 60)) {
            return NONE;
        }
        past.note(ledger);
        int drawn = seed;
        int many = 0;
        int spoken = 0;
        int worth = 0;
        for (int i = 0; i < n; i++) {
            drawn = drawn * 1103515245 + 12345;
            int thing = (drawn >>> 16) % DRAW_OF;
            int answer = utter(thing, costs.leastWay(thing));
            if (answer >= 0) {
                many++;
                spoken += answer;
                worth += at(town.worth, thing);
            }
            ledger.passDay(town);
        }
        // A question: the years are only thought of.
        past.recall(ledger);
        told.tellTwo(spoken, worth);
        return many;
    }

    // ---- kept

    public boolean keep(int i) {
        return past.keepUnder(i, ledger);
    }

    public boolean again(int i) {
        return past.bringBack(i, ledger);
    }

    public int count(int what) {
        switch (what) {
            case 0:
                return town.persons;
            case 1:
                return town.wishes;
            case 2:
                return ledger.day;
            case 3:
                return ledger.loans;
            case 4:
                return ledger.said;
            case 5:
                return costs.openThings();
            case 6:
                return ledger.allClocks(town.persons);
            case 7:
                return wordings.lines;
            case 8:
                return dusk.readBits;
            case 9:
                return past.held;
            case 10:
                return told.length;
            case 11:
                return text.length;
            default:
                return NONE;
        }
    }

    public int row(int i) throws NoSuchElementException {
        if (!within(i, 0, told.length - 1)) {
            throw new NoSuchElementException("no such number of the row");
        }
        return at(told.numbers, i);
    }

    // ---- acts

    private int held(int answer) {
        if (answer >= 0) {
            past.hold();
        }
        return answer;
    }

    private int utter(int thing, int way) {
        if (!town.hasThing(thing) || !within(way, 0, WAYS - 1)) {
            return NONE;
        }
        if (holds(ledger.said, thing)) {
            return -2;
        }
        if (ledger.isLate(town, thing)) {
            return -3;
        }
        if (!costs.isHeard(thing, way)) {
            return -4;
        }
        int price = costs.ofThing(thing, way);
        int who = at(town.who, thing);
        if (at(ledger.clocks, who) < price) {
            return -5;
        }
        ledger.spend(who, price);
        ledger.said |= 1 << thing;
        return price;
    }

    private int handOver(int from, int to, int n) {
        if (!town.areTwo(from, to) || !within(n, 1, MOST_SECONDS)) {
            return NONE;
        }
        if (at(ledger.clocks, from) < n) {
            return -2;
        }
        ledger.carry(from, to, n);
        return at(ledger.clocks, to);
    }

    private void passDays(int n) {
        for (int i = 0; i < n; i++) {
            ledger.passDay(town);
        }
    }

    private boolean isSpeech(int act) {
        int kind = at(acts, act * ACT_PARTS);
        return kind == 's' || kind == 'b';
    }

    private int doAct(int act) {
        int base = act * ACT_PARTS;
        int one = at(acts, base + 1);
        int two = at(acts, base + 2);
        int many = at(acts, base + 3);
        switch (at(acts, base)) {
            case 's':
                return utter(one, two);
            case 'b':
                return utter(one, costs.leastWay(one));
            case 'g':
                return handOver(one, two, many);
            default:
                passDays(many);
                return ledger.day;
        }
    }

    private int bestOfAll(Costs by) {
        by.fill();
        int sum = 0;
        for (int i = 0; i < town.persons; i++) {
            by.chooseFor(i);
            sum += by.chosenWorth;
        }
        return sum;
    }

    // ---- texts

    private int readText(int kind, int room, int limit) {
        text.place = 0;
        int found;
        if (kind == TELLS_RULE) {
            found = otherLaw.readAll(text) ? 0 : NONE;
        } else if (kind == TELLS_WORDING) {
            found = wordings.readWording(text);
        } else {
            found = text.atEnd() ? 0 : readLines(kind, room);
        }
        int answer = text.verdict(found, limit);
        text.length = 0;
        return answer;
    }

    // A LINE for which there is no room fails where it begins, so the loop ends there.
    private int readLines(int kind, int room) {
        for (int line = 0; line < room; line++) {
            if (!readLine(kind, line)) {
                return NONE;
            }
            if (text.atEnd()) {
                return line + 1;
            }
            if (!text.skip(';')) {
                return NONE;
            }
        }
        return NONE;
    }

    private boolean readLine(int kind, int line) {
        switch (kind) {
            case TELLS_PEOPLE:
                return town.readPerson(text, town.persons + line);
            case TELLS_THINGS:
                return readWish(town.wishes + line);
            case TELLS_ACTS:
                return readAct(line);
            default:
                return wordings.readLine(text, line);
        }
    }

    private boolean readWish(int slot) {
        return town.readTwo(text, slot) && town.readSeconds(text, slot) && town.readDayAndWorth(text, slot);
    }

    private boolean readAct(int act) {
        if (text.skip('s')) {
            return readSaying(act);
        }
        if (text.skip('b')) {
            int thing = text.takeOneOf('0', 10);
            writeAct(act, 'b', thing, 0, 0);
            return thing >= 0;
        }
        if (text.skip('g')) {
            return readGift(act);
        }
        if (text.skip('d')) {
            int many = text.takeNumber(2);
            writeAct(act, 'd', 0, 0, many);
            return many >= 0;
        }
        return false;
    }

    private boolean readSaying(int act) {
        int thing = text.takeOneOf('0', 10);
        if (thing < 0) {
            return false;
        }
        int way = text.takeOneOf('0', WAYS);
        writeAct(act, 's', thing, way, 0);
        return way >= 0;
    }

    private boolean readGift(int act) {
        int from = text.takeOneOf('a', PEOPLE_ROOM);
        if (from < 0) {
            return false;
        }
        int to = text.takeOneOf('a', PEOPLE_ROOM);
        if (to < 0) {
            return false;
        }
        int many = text.takeNumber(3);
        writeAct(act, 'g', from, to, many);
        return many >= 0;
    }

    private void writeAct(int act, int kind, int one, int two, int many) {
        int base = act * ACT_PARTS;
        put(acts, base, kind);
        put(acts, base + 1, one);
        put(acts, base + 2, two);
        put(acts, base + 3, many);
    }

    // ---- small helpers that test what the machine would throw for

    private static int at(int[] cells, int i) {
        return cells != null && i >= 0 && i < cells.length ? cells[i] : 0;
    }

    private static void put(int[] cells, int i, int value) {
        if (cells != null && i >= 0 && i < cells.length) {
            cells[i] = value;
        }
    }

    private static long wordAt(long[] cells, int i) {
        return cells != null && i >= 0 && i < cells.length ? cells[i] : 0L;
    }

    private static void putWord(long[] cells, int i, long value) {
        if (cells != null && i >= 0 && i < cells.length) {
            cells[i] = value;
        }
    }

    private static boolean within(int n, int least, int most) {
        return n >= least && n <= most;
    }

    private static int clamp(int n, int most) {
        return Math.max(0, Math.min(n, most));
    }

    private static boolean holds(int bits, int i) {
        return i >= 0 && i < 32 && (bits >>> i & 1) != 0;
    }

    private static boolean areBitsOf(int bits, int many) {
        return (bits & ~((1 << many) - 1)) == 0;
    }

    private static int entryOf(int kind, int number) {
        int entry = number;
        if (kind == 0) {
            entry = (byte) number;
        } else if (kind == 1) {
            entry = (short) number;
        }
        return clamp(entry, MOST_SECONDS);
    }

    /** THE TEXT: signs as numbers 0 .. 255, and the place up to which it was read. */
    private static final class Text {
        final int[] signs = new int[SIGNS_ROOM];
        int length;
        int place;

        boolean addFour(int v) {
            if (length + 4 > SIGNS_ROOM) {
                return false;
            }
            for (int shift = 24; shift >= 0; shift -= 8) {
                put(signs, length, v >>> shift & 255);
                length++;
            }
            return true;
        }

        boolean cutTo(int n) {
            if (n < 0 || n > length) {
                return false;
            }
            length = n;
            return true;
        }

        boolean atEnd() {
            return place >= length;
        }

        boolean skip(int sign) {
            if (place >= length || at(signs, place) != sign) {
                return false;
            }
            place++;
            return true;
        }

        // Which of so many signs from the first on stands here; NONE leaves the place where it is.
        int takeOneOf(int first, int many) {
            if (place >= length) {
                return NONE;
            }
            int offset = at(signs, place) - first;
            if (offset < 0 || offset >= many) {
                return NONE;
            }
            place++;
            return offset;
        }

        int takeAnyOf(String several) {
            for (int i = 0; i < several.length(); i++) {
                if (skip(several.charAt(i))) {
                    return i;
                }
            }
            return NONE;
        }

        int takeNumber(int mostDigits) {
            int number = NONE;
            for (int i = 0; i < mostDigits; i++) {
                int digit = place < length ? at(signs, place) - '0' : NONE;
                if (!within(digit, 0, 9)) {
                    break;
                }
                place++;
                number = Math.max(number, 0) * 10 + digit;
            }
            return number;
        }

        // What a call answers that read so much: a fault behind the limit is told at the limit,
        // for there the text is too long already.
        int verdict(int answer, int limit) {
            if (answer < 0) {
                return -1 - Math.min(place, limit);
            }
            return length > limit ? -1 - limit : answer;
        }
    }

    /** THE ROW: numbers told last. */
    private static final class Row {
        final int[] numbers = new int[ROW_ROOM];
        int length;

        void tell(int one) {
            put(numbers, 0, one);
            length = 1;
        }

        void tellTwo(int one, int two) {
            put(numbers, 0, one);
            put(numbers, 1, two);
            length = 2;
        }

        void tellAll(int[] from, int first, int many) {
            length = clamp(many, ROW_ROOM);
            for (int i = 0; i < length; i++) {
                put(numbers, i, at(from, first + i));
            }
        }
    }

    /** Who lives where, and who wants to say what: what acts of talk never change. */
    private static final class Town {
        int persons;
        int wishes;
        final int[] steps = new int[PEOPLE_ROOM];
        final int[] yearly = new int[PEOPLE_ROOM];
        final int[] who = new int[THINGS_ROOM];
        final int[] whom = new int[THINGS_ROOM];
        final int[] seconds = new int[THINGS_ROOM];
        final int[] by = new int[THINGS_ROOM];
        final int[] worth = new int[THINGS_ROOM];

        boolean hasPerson(int i) {
            return i >= 0 && i < persons;
        }

        boolean hasThing(int i) {
            return i >= 0 && i < wishes;
        }

        boolean areTwo(int one, int other) {
            return hasPerson(one) && hasPerson(other) && one != other;
        }

        int apart(int one, int other) {
            return Math.abs(at(steps, one) - at(steps, other));
        }

        int apartFor(int thing) {
            return apart(at(who, thing), at(whom, thing));
        }

        int thingsOf(int person) {
            int bits = 0;
            for (int i = 0; i < wishes; i++) {
                if (at(who, i) == person) {
                    bits |= 1 << i;
                }
            }
            return bits;
        }

        // Readers write behind those that are there; the caller counts them once all LINES could be read.
        boolean readPerson(Text text, int slot) {
            int step = text.takeNumber(2);
            if (step < 0 || !text.skip(':')) {
                return false;
            }
            int year = text.takeNumber(3);
            put(steps, slot, step);
            put(yearly, slot, year);
            return year >= 0;
        }

        boolean readTwo(Text text, int slot) {
            int one = text.takeOneOf('a', persons);
            if (one < 0) {
                return false;
            }
            int other = text.takeOneOf('a', persons);
            if (other < 0 || other == one) {
                text.place -= other < 0 ? 0 : 1;
                return false;
            }
            put(who, slot, one);
            put(whom, slot, other);
            return true;
        }

        // 0 is told at its last digit; but where it is the last sign of those that count and more follow, another digit
        // could come, so the text is too long there, whatever follows.
        boolean readSeconds(Text text, int slot) {
            boolean couldGoOn = text.place == TOWN_LIMIT - 1 && text.length > TOWN_LIMIT;
            int length = text.takeNumber(2);
            if (length == 0 && !couldGoOn) {
                text.place--;
            }
            put(seconds, slot, length);
            return length > 0 && text.skip('-');
        }

        boolean readDayAndWorth(Text text, int slot) {
            int last = text.takeNumber(2);
            if (last < 0 || !text.skip('=')) {
                return false;
            }
            int value = text.takeNumber(2);
            put(by, slot, last);
            put(worth, slot, value);
            return value >= 0;
        }
    }

    /** DAY, CLOCKS, SPENT, LOANS, LOSS and what was SAID: what is undone and kept as one. */
    private static final class Ledger {
        int day;
        int said;
        int loans;
        int ended;
        final int[] clocks = new int[PEOPLE_ROOM];
        final int[] spent = new int[PEOPLE_ROOM];
        final long[] losses = new long[PEOPLE_ROOM];
        final int[] lenders = new int[LOANS_ROOM];
        final int[] debtors = new int[LOANS_ROOM];
        final int[] due = new int[LOANS_ROOM];
        // Tenths of 333 months leave int far behind, but not long.
        final long[] owed = new long[LOANS_ROOM];

        void copyFrom(Ledger other) {
            if (other == null) {
                return;
            }
            day = other.day;
            said = other.said;
            loans = other.loans;
            ended = other.ended;
            System.arraycopy(other.clocks, 0, clocks, 0, PEOPLE_ROOM);
            System.arraycopy(other.spent, 0, spent, 0, PEOPLE_ROOM);
            System.arraycopy(other.losses, 0, losses, 0, PEOPLE_ROOM);
            System.arraycopy(other.lenders, 0, lenders, 0, LOANS_ROOM);
            System.arraycopy(other.debtors, 0, debtors, 0, LOANS_ROOM);
            System.arraycopy(other.due, 0, due, 0, LOANS_ROOM);
            System.arraycopy(other.owed, 0, owed, 0, LOANS_ROOM);
        }

        void welcome(Town town, int many) {
            for (int i = 0; i < many; i++) {
                int person = town.persons + i;
                put(clocks, person, at(town.yearly, person));
            }
        }

        int allClocks(int persons) {
            int sum = 0;
            for (int i = 0; i < persons; i++) {
                sum += at(clocks, i);
            }
            return sum;
        }

        boolean isLate(Town town, int thing) {
            return at(town.by, thing) < day % 100;
        }

        void spend(int person, int price) {
            put(clocks, person, at(clocks, person) - price);
            put(spent, person, at(spent, person) + price);
        }

        void carry(int from, int to, int n) {
            put(clocks, from, at(clocks, from) - n);
            put(clocks, to, Math.min(at(clocks, to) + n, MOST_SECONDS));
        }

        int write(int from, int to, int n, int last) {
            int number = loans;
            put(lenders, number, from);
            put(debtors, number, to);
            putWord(owed, number, n);
            put(due, number, last);
            loans++;
            return number;
        }

        boolean isOpen(int i) {
            return i < loans && !holds(ended, i);
        }

        long owedBy(int person) {
            return owedByAll(1 << person);
        }

        long owedByAll(int persons) {
            long sum = 0;
            for (int i = 0; i < loans; i++) {
                if (isOpen(i) && holds(persons, at(debtors, i))) {
                    sum += wordAt(owed, i);
                }
            }
            return sum;
        }

        long owedTo(int person) {
            return owedToBut(person, 0);
        }

        long owedToBut(int person, int without) {
            long sum = 0;
            for (int i = 0; i < loans; i++) {
                if (isOpen(i) && at(lenders, i) == person && !holds(without, at(debtors, i))) {
                    sum += wordAt(owed, i);
                }
            }
            return sum;
        }

        int endedLoans() {
            return Integer.bitCount(ended);
        }

        long allLosses() {
            long sum = 0;
            for (int i = 0; i < PEOPLE_ROOM; i++) {
                sum += wordAt(losses, i);
            }
            return sum;
        }

        void passDay(Town town) {
            day++;
            if (day % 30 == 0) {
                addTenths();
            }
            for (int i = 0; i < loans; i++) {
                if (isOpen(i) && at(due, i) == day) {
                    settle(i);
                }
            }
            if (day % 100 == 0) {
                beginYear(town);
            }
        }

        private void addTenths() {
            for (int i = 0; i < loans; i++) {
                if (isOpen(i)) {
                    putWord(owed, i, wordAt(owed, i) + wordAt(owed, i) / 10);
                }
            }
        }

        private void settle(int i) {
            int lender = at(lenders, i);
            int debtor = at(debtors, i);
            int paid = (int) Math.min(wordAt(owed, i), at(clocks, debtor));
            carry(debtor, lender, paid);
            putWord(losses, lender, wordAt(losses, lender) + wordAt(owed, i) - paid);
            ended |= 1 << i;
        }

        private void beginYear(Town town) {
            said = 0;
            for (int i = 0; i < PEOPLE_ROOM; i++) {
                put(clocks, i, i < town.persons ? at(town.yearly, i) : 0);
                put(spent, i, 0);
            }
        }

        // Each round strikes one more at least, or is the last; so as many rounds as people are enough.
        int struckWith(int person, int persons) {
            if (owedBy(person) == 0) {
                return 0;
            }
            int struck = 1 << person;
            for (int round = 0; round < persons; round++) {
                for (int i = 0; i < persons; i++) {
                    if (!holds(struck, i) && isStruckBy(i, struck)) {
                        struck |= 1 << i;
                    }
                }
            }
            return struck;
        }

        private boolean isStruckBy(int person, int struck) {
            long sure = owedToBut(person, struck);
            return sure < owedTo(person) && at(clocks, person) + sure < owedBy(person);
        }
    }

    /** What can be undone (the latest twelve), and what was kept under a number. */
    private static final class History {
        private static final int ROOM = 12;
        private static final int KEPT_ROOM = 2;

        final Ledger[] ring = new Ledger[ROOM];
        final Ledger[] kept = new Ledger[KEPT_ROOM];
        final Ledger ahead = new Ledger();
        int keptBits;
        int held;
        int next;

        History() {
            for (int i = 0; i < ROOM; i++) {
                ring[i] = new Ledger();
            }
            for (int i = 0; i < KEPT_ROOM; i++) {
                kept[i] = new Ledger();
            }
        }

        void clearAll() {
            held = 0;
            keptBits = 0;
        }

        // What stood ahead of a call is noted first, and held only once the call was done.
        void note(Ledger now) {
            ahead.copyFrom(now);
        }

        void recall(Ledger now) {
            now.copyFrom(ahead);
        }

        void hold() {
            if (next >= 0 && next < ring.length && ring[next] != null) {
                ring[next].copyFrom(ahead);
            }
            next = next + 1 < ROOM ? next + 1 : 0;
            held = Math.min(held + 1, ROOM);
        }

        boolean stepBack(Ledger now) {
            if (held == 0) {
                return false;
            }
            next = next > 0 ? next - 1 : ROOM - 1;
            held--;
            if (next < ring.length) {
                now.copyFrom(ring[next]);
            }
            return true;
        }

        boolean keepUnder(int i, Ledger now) {
            if (i < 0 || i >= kept.length || kept[i] == null) {
                return false;
            }
            kept[i].copyFrom(now);
            keptBits |= 1 << i;
            return true;
        }

        boolean bringBack(int i, Ledger now) {
            if (i < 0 || i >= kept.length || !holds(keptBits, i)) {
                return false;
            }
            now.copyFrom(kept[i]);
            held = 0;
            return true;
        }
    }

    /** A RULE, read once into steps of reckoning (each behind what it works on). */
    private static final class Rule {
        private static final int MOST_NESTED = 4;
        private static final int FIRST_GIVEN = 1000;
        private static final int NEGATE = -'~';
        private static final String GIVEN = "lwscdh";
        private static final String COMPARE = "<>=";
        private static final String ADD = "+-";
        private static final String TIMES = "*/";

        final int[] steps = new int[SIGNS_ROOM];
        final int[] stack = new int[SIGNS_ROOM];
        final int[] given = new int[6];
        int length;

        void copyFrom(Rule other) {
            length = other.length;
            System.arraycopy(other.steps, 0, steps, 0, SIGNS_ROOM);
        }

        boolean readAll(Text text) {
            length = 0;
            return text.atEnd() || readExpression(text, 0) && text.atEnd();
        }

        private boolean add(int step) {
            if (length >= SIGNS_ROOM) {
                return false;
            }
            put(steps, length, step);
            length++;
            return true;
        }

        private boolean readExpression(Text text, int depth) {
            if (depth > MOST_NESTED || !readSum(text, depth)) {
                return false;
            }
            int which = text.takeAnyOf(COMPARE);
            return which < 0 || readSum(text, depth) && addSign(COMPARE, which);
        }

        private boolean addSign(String several, int which) {
            return which >= 0 && which < several.length() && add(-several.charAt(which));
        }

        private boolean readSum(Text text, int depth) {
            if (!readProduct(text, depth)) {
                return false;
            }
            for (int i = 0; i < SIGNS_ROOM; i++) {
                int which = text.takeAnyOf(ADD);
                if (which < 0) {
                    return true;
                }
                if (!readProduct(text, depth) || !addSign(ADD, which)) {
                    return false;
                }
            }
            return true;
        }

        private boolean readProduct(Text text, int depth) {
            if (!readFactor(text, depth)) {
                return false;
            }
            for (int i = 0; i < SIGNS_ROOM; i++) {
                int which = text.takeAnyOf(TIMES);
                if (which < 0) {
                    return true;
                }
                if (!readFactor(text, depth) || !addSign(TIMES, which)) {
                    return false;
                }
            }
            return true;
        }

        private boolean readFactor(Text text, int depth) {
            boolean negative = false;
            for (int i = 0; i < SIGNS_ROOM && text.skip('-'); i++) {
                negative = !negative;
            }
            return readAtom(text, depth) && (!negative || add(NEGATE));
        }

        private boolean readAtom(Text text, int depth) {
            // A fifth ( can't stand, so it is not even taken.
            if (depth < MOST_NESTED && text.skip('(')) {
                return readExpression(text, depth + 1) && text.skip(')');
            }
            int variable = text.takeAnyOf(GIVEN);
            if (variable >= 0) {
                return add(FIRST_GIVEN + variable);
            }
            int number = text.takeNumber(3);
            return number >= 0 && add(number);
        }

        // given: l, w, s, c, d, h as they stand now.
        int evaluate() {
            if (length == 0) {
                return usual(at(given, 0), at(given, 1));
            }
            int top = 0;
            for (int i = 0; i < length; i++) {
                int step = at(steps, i);
                if (step >= FIRST_GIVEN) {
                    put(stack, top++, at(given, step - FIRST_GIVEN));
                } else if (step >= 0) {
                    put(stack, top++, step);
                } else if (step == NEGATE) {
                    put(stack, top - 1, -at(stack, top - 1));
                } else {
                    top--;
                    put(stack, top - 1, reckon(-step, at(stack, top - 1), at(stack, top)));
                }
            }
            return clamp(at(stack, 0), MOST_COST);
        }

        private static int usual(int seconds, int way) {
            switch (way) {
                case 0:
                    return (seconds + 1) / 2;
                case 1:
                    return (seconds + 2) / 3;
                case 2:
                    return seconds;
                default:
                    return seconds * 2;
            }
        }

        private static int reckon(int sign, int one, int two) {
            switch (sign) {
                case '<':
                    return one < two ? 1 : 0;
                case '>':
                    return one > two ? 1 : 0;
                case '=':
                    return one == two ? 1 : 0;
                case '+':
                    return one + two;
                case '-':
                    return one - two;
                case '*':
                    return one * two;
                default:
                    return two == 0 ? 0 : one / two;
            }
        }
    }

    /** What speech costs by a RULE, and what is best said for it. */
    private static final class Costs {
        private static final int[] REACH = {1, 3, 9, 99};

        final Town town;
        final Ledger ledger;
        final Rule law;
        final int[] prices = new int[THINGS_ROOM * WAYS];
        final int[] least = new int[THINGS_ROOM];
        int chosen;
        int chosenCost;
        int chosenWorth;

        Costs(Town town, Ledger ledger, Rule law) {
            this.town = town;
            this.ledger = ledger;
            this.law = law;
        }

        boolean isHeard(int thing, int way) {
            return town.apartFor(thing) <= at(REACH, way);
        }

        int hearers(int speaker, int way) {
            int reach = at(REACH, way);
            int bits = 0;
            for (int i = 0; i < town.persons; i++) {
                if (i != speaker && town.apart(speaker, i) <= reach) {
                    bits |= 1 << i;
                }
            }
            return bits;
        }

        int ofWord(int speaker, int seconds, int way, int apart) {
            put(law.given, 0, seconds);
            put(law.given, 1, way);
            put(law.given, 2, apart);
            put(law.given, 3, at(ledger.clocks, speaker));
            put(law.given, 4, ledger.day % 100);
            put(law.given, 5, Integer.bitCount(hearers(speaker, way)));
            return law.evaluate();
        }

        int ofThing(int thing, int way) {
            return ofWord(at(town.who, thing), at(town.seconds, thing), way, town.apartFor(thing));
        }

        int leastWay(int thing) {
            return cheapestWay(at(town.who, thing), at(town.whom, thing), at(town.seconds, thing));
        }

        // Shouting is heard by all, so there is always a WAY.
        int cheapestWay(int speaker, int hearer, int seconds) {
            int apart = town.apart(speaker, hearer);
            int first = WAYS - 1;
            int price = MOST_COST + 1;
            for (int way = 0; way < WAYS; way++) {
                if (apart <= at(REACH, way)) {
                    int now = ofWord(speaker, seconds, way, apart);
                    if (now < price) {
                        price = now;
                        first = way;
                    }
                }
            }
            return first;
        }

        // What most questions ask of each THING, reckoned once a question: NONE where it is not heard.
        void fill() {
            for (int i = 0; i < town.wishes; i++) {
                int lowest = MOST_COST;
                for (int way = 0; way < WAYS; way++) {
                    int price = isHeard(i, way) ? ofThing(i, way) : NONE;
                    put(prices, i * WAYS + way, price);
                    lowest = price >= 0 ? Math.min(lowest, price) : lowest;
                }
                put(least, i, lowest);
            }
        }

        int leastOfAll(int things) {
            int sum = 0;
            for (int i = 0; i < town.wishes; i++) {
                if (holds(things, i)) {
                    sum += at(least, i);
                }
            }
            return sum;
        }

        int openThings() {
            int bits = 0;
            for (int i = 0; i < town.wishes; i++) {
                if (!holds(ledger.said, i) && !ledger.isLate(town, i)) {
                    bits |= 1 << i;
                }
            }
            return bits;
        }

        int openThingsOf(int person) {
            return openThings() & town.thingsOf(person);
        }

        void chooseFor(int person) {
            choose(openThingsOf(person), at(ledger.clocks, person));
        }

        // Sets come by their bits, so of equal ones the first stays.
        void choose(int among, int budget) {
            chosen = 0;
            chosenCost = 0;
            chosenWorth = 0;
            for (int set = 1; set < SETS_OF_THINGS; set++) {
                if ((set & ~among) == 0) {
                    weigh(set, budget);
                }
            }
        }

        private void weigh(int set, int budget) {
            int price = 0;
            int worth = 0;
            for (int i = 0; i < town.wishes; i++) {
                if (holds(set, i)) {
                    price += at(least, i);
                    worth += at(town.worth, i);
                }
            }
            boolean better = worth > chosenWorth || worth == chosenWorth && price < chosenCost;
            if (price <= budget && better) {
                chosen = set;
                chosenCost = price;
                chosenWorth = worth;
            }
        }

        int firstUnpayable() {
            int open = openThings();
            int first = NONE;
            for (int i = 0; i < town.wishes; i++) {
                boolean sooner = first < 0 || at(town.by, i) < at(town.by, first);
                if (sooner && holds(open, i) && at(least, i) > at(ledger.clocks, at(town.who, i))) {
                    first = i;
                }
            }
            return first;
        }
    }

    /** A word passed on, from one to the next or cried to all who hear it. */
    private static final class WordOfMouth {
        final Town town;
        final Ledger ledger;
        final Costs costs;
        final int[] links = new int[PEOPLE_ROOM * PEOPLE_ROOM];
        final int[] hears = new int[PEOPLE_ROOM];
        final int[] path = new int[PEOPLE_ROOM];
        final int[] bestPath = new int[PEOPLE_ROOM];
        int bestLength;
        int bestCost;

        WordOfMouth(Town town, Ledger ledger, Costs costs) {
            this.town = town;
            this.ledger = ledger;
            this.costs = costs;
        }

        void findChain(int from, int to, int n) {
            for (int i = 0; i < town.persons; i++) {
                for (int j = 0; j < town.persons; j++) {
                    put(links, i * PEOPLE_ROOM + j, i == j ? NONE : linkCost(i, j, n));
                }
            }
            bestLength = 0;
            bestCost = 0;
            put(path, 0, from);
            walk(to, 1, 1 << from, 0);
        }

        private int linkCost(int speaker, int hearer, int n) {
            int way = costs.cheapestWay(speaker, hearer, n);
            int price = costs.ofWord(speaker, n, way, town.apart(speaker, hearer));
            return price <= at(ledger.clocks, speaker) ? price : NONE;
        }

        // The next ones are tried in rising order, so of as cheap rows the least comes first and stays.
        private void walk(int to, int length, int met, int soFar) {
            int last = at(path, length - 1);
            if (last == to) {
                if (bestLength == 0 || soFar < bestCost) {
                    bestLength = length;
                    bestCost = soFar;
                    System.arraycopy(path, 0, bestPath, 0, PEOPLE_ROOM);
                }
                return;
            }
            for (int i = 0; i < town.persons && length < PEOPLE_ROOM; i++) {
                int price = at(links, last * PEOPLE_ROOM + i);
                if (!holds(met, i) && price >= 0) {
                    put(path, length, i);
                    walk(to, length + 1, met | 1 << i, soFar + price);
                }
            }
        }

        // The set of speakers, or NONE.
        int fewestCriers(int from, int those, int n) {
            for (int i = 0; i < town.persons; i++) {
                put(hears, i, widestHearers(i, n));
            }
            int fewest = NONE;
            for (int set = 0; set < 1 << town.persons; set++) {
                boolean fewer = fewest < 0 || Integer.bitCount(set) < Integer.bitCount(fewest);
                if (fewer && (those & ~knowers(from, set)) == 0) {
                    fewest = set;
                }
            }
            return fewest;
        }

        // Who is heard further is heard by all that hear less, so only the widest WAY counts.
        private int widestHearers(int speaker, int n) {
            for (int way = WAYS - 1; way >= 0; way--) {
                if (costs.ofWord(speaker, n, way, 0) <= at(ledger.clocks, speaker)) {
                    return costs.hearers(speaker, way);
                }
            }
            return 0;
        }

        private int knowers(int from, int speakers) {
            int known = 1 << from;
            for (int round = 0; round < town.persons; round++) {
                for (int i = 0; i < town.persons; i++) {
                    if (holds(speakers & known, i)) {
                        known |= at(hears, i);
                    }
                }
            }
            return known;
        }
    }

    /** THE GRAMMAR, and what a wording may become by it. */
    private static final class Wordings {
        private static final int PARTS = 3;
        private static final int SPAN = WORDING_ROOM + 1;

        final int[] grammar = new int[LINES_ROOM * PARTS];
        final int[] draft = new int[LINES_ROOM * PARTS];
        final int[] letters = new int[WORDING_ROOM];
        final int[] masks = new int[SPAN * SPAN];
        final int[] fewest = new int[SPAN];
        final int[] rows = new int[SPAN * SPAN];
        final int[] trial = new int[SPAN];
        int lines;

        boolean readLine(Text text, int line) {
            int left = text.takeOneOf('a', LETTERS);
            if (left < 0) {
                return false;
            }
            int right = text.takeOneOf('a', LETTERS);
            if (right < 0 || !text.skip('>')) {
                return false;
            }
            int one = text.takeOneOf('a', LETTERS);
            put(draft, line * PARTS, left);
            put(draft, line * PARTS + 1, right);
            put(draft, line * PARTS + 2, one);
            return one >= 0;
        }

        void adopt(int many) {
            System.arraycopy(draft, 0, grammar, 0, LINES_ROOM * PARTS);
            lines = many;
        }

        // How many letters there are, or NONE where a sign can't stand.
        int readWording(Text text) {
            int length = 0;
            for (int i = 0; i < SIGNS_ROOM && !text.atEnd(); i++) {
                int letter = text.takeOneOf('a', LETTERS);
                if (letter < 0) {
                    return NONE;
                }
                put(letters, length, letter);
                length++;
            }
            return length > 0 ? length : NONE;
        }

        // Letters that the signs from one place up to another can become alone.
        int mask(int from, int to) {
            return at(masks, from * SPAN + to);
        }

        void fillMasks(int length) {
            for (int i = 0; i < length; i++) {
                put(masks, i * SPAN + i + 1, 1 << at(letters, i));
            }
            for (int span = 2; span <= length; span++) {
                for (int from = 0; from + span <= length; from++) {
                    put(masks, from * SPAN + from + span, joined(from, from + span));
                }
            }
        }

        private int joined(int from, int to) {
            int bits = 0;
            for (int middle = from + 1; middle < to; middle++) {
                int left = mask(from, middle);
                int right = mask(middle, to);
                for (int line = 0; line < lines; line++) {
                    int base = line * PARTS;
                    if (holds(left, at(grammar, base)) && holds(right, at(grammar, base + 1))) {
                        bits |= 1 << at(grammar, base + 2);
                    }
                }
            }
            return bits;
        }

        // Of each rest of the wording the best row, from the last letter back; the whole one stands first.
        int shorten(int length) {
            put(fewest, length, 0);
            for (int from = length - 1; from >= 0; from--) {
                put(fewest, from, SPAN);
                for (int to = from + 1; to <= length; to++) {
                    if (mask(from, to) != 0) {
                        tryFirst(from, to);
                    }
                }
            }
            return at(fewest, 0);
        }

        private void tryFirst(int from, int to) {
            int many = 1 + at(fewest, to);
            if (many > at(fewest, from)) {
                return;
            }
            put(trial, 0, Integer.numberOfTrailingZeros(mask(from, to)));
            for (int i = 1; i < many; i++) {
                put(trial, i, at(rows, to * SPAN + i - 1));
            }
            if (many < at(fewest, from) || isTrialLess(from, many)) {
                for (int i = 0; i < many; i++) {
                    put(rows, from * SPAN + i, at(trial, i));
                }
                put(fewest, from, many);
            }
        }

        private boolean isTrialLess(int from, int many) {
            for (int i = 0; i < many; i++) {
                int difference = at(trial, i) - at(rows, from * SPAN + i);
                if (difference != 0) {
                    return difference < 0;
                }
            }
            return false;
        }
    }

    /** CLOCKS that were read at dusk, and the sums of seconds that explain them. */
    private static final class Dusk {
        // Eight THINGS of 999 seconds at most: sums up to 7992, 64 of them in a word.
        private static final int WORDS = THINGS_ROOM * MOST_COST / 64 + 1;

        final Town town;
        final Ledger ledger;
        final Costs costs;
        final int[] readings = new int[PEOPLE_ROOM];
        final long[] sums = new long[(THINGS_ROOM + 1) * WORDS];
        int readBits;
        int explained;
        int leastSet;
        int inAll;

        Dusk(Town town, Ledger ledger, Costs costs) {
            this.town = town;
            this.ledger = ledger;
            this.costs = costs;
        }

        void note(int person, int v) {
            put(readings, person, v);
            readBits |= 1 << person;
        }

        void explain(int person) {
            explained = 0;
            leastSet = NONE;
            inAll = 0;
            int open = costs.openThingsOf(person);
            int spent = at(ledger.clocks, person) - at(readings, person);
            int words = wordsFor(spent);
            if (words == 0) {
                return;
            }
            for (int set = 0; set < SETS_OF_THINGS; set++) {
                if ((set & ~open) == 0 && canCost(set, spent, words)) {
                    countSet(set);
                }
            }
        }

        private void countSet(int set) {
            leastSet = explained == 0 ? set : leastSet;
            inAll = explained == 0 ? set : inAll & set;
            explained++;
        }

        // No word, if no sum can be so much.
        private static int wordsFor(int sum) {
            return sum < 0 || sum >= WORDS * 64 ? 0 : sum / 64 + 1;
        }

        private boolean hasSum(int slot, int sum) {
            return (wordAt(sums, slot * WORDS + sum / 64) >>> sum % 64 & 1L) != 0;
        }

        // The sums of a set are those of the set without its first THING, each more by what that costs. A slot for each
        // number of THINGS is enough: between that set and this one come only such as hold all of that and more.
        private boolean canCost(int set, int sum, int words) {
            int slot = Integer.bitCount(set);
            clearSums(slot, words);
            if (slot == 0) {
                putWord(sums, 0, 1L);
            } else {
                addSpeech(slot - 1, slot, Integer.numberOfTrailingZeros(set), words);
            }
            return hasSum(slot, sum);
        }

        private void clearSums(int slot, int words) {
            for (int i = 0; i < words; i++) {
                putWord(sums, slot * WORDS + i, 0L);
            }
        }

        private void addSpeech(int from, int to, int thing, int words) {
            for (int way = 0; way < WAYS; way++) {
                int price = at(costs.prices, thing * WAYS + way);
                if (price >= 0) {
                    addShifted(from * WORDS, to * WORDS, price, words);
                }
            }
        }

        private void addShifted(int from, int to, int price, int words) {
            int far = price / 64;
            int near = price % 64;
            for (int i = far; i < words; i++) {
                long moved = wordAt(sums, from + i - far) << near;
                if (near > 0 && i > far) {
                    moved |= wordAt(sums, from + i - far - 1) >>> 64 - near;
                }
                putWord(sums, to + i, wordAt(sums, to + i) | moved);
            }
        }

        // Slot by slot one more THING is said or not, so the last slot has the sums of all sets.
        int differentReadings(int person) {
            int most = Math.min(at(ledger.clocks, person), WORDS * 64 - 1);
            int words = wordsFor(most);
            int open = costs.openThingsOf(person);
            clearSums(0, words);
            putWord(sums, 0, 1L);
            int slot = 0;
            for (int i = 0; i < town.wishes; i++) {
                if (holds(open, i)) {
                    clearSums(slot + 1, words);
                    addShifted(slot * WORDS, (slot + 1) * WORDS, 0, words);
                    addSpeech(slot, slot + 1, i, words);
                    slot++;
                }
            }
            return countSums(slot, most);
        }

        private int countSums(int slot, int most) {
            int many = 0;
            for (int sum = 0; sum <= most; sum++) {
                if (hasSum(slot, sum)) {
                    many++;
                }
            }
            return many;
        }
    }
}
