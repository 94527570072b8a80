import java.util.Arrays;

/**
 * A net of houses, their letters, and what is known of both at any minute. This class holds what happens in which
 * order; the classes inside it hold houses and names, the tape and its two readers, rules, words, letters and marks.
 */
public final class UnaskedLetters {
    public static final int NONE = -1;

    private static final int NO_WEIGHT = -1_000_000;
    private static final int LAST_MINUTE = 2_000;
    private static final int MOST_MINUTES = 200;
    private static final int MOST_LISTS = 4;
    private static final int MOST_LETTERS = 120;
    private static final int MOST_STAMP = 20;
    private static final int MOST_TRIES = 8;
    private static final int DOWN_DELAY = 10;
    private static final int MOST_DELAY = 500;
    private static final int ALL_SHOPS = 255;
    private static final int MOST_MEASURES = 8;
    private static final int PLANNED_LETTERS = 30;
    private static final int NEVER_ASKED = 9_999;
    private static final int LOST_COSTS = 5;

    private final Net net = new Net();
    private final Tape tape = new Tape();
    private final LetterReader letterReader = new LetterReader();
    private final RuleReader ruleReader = new RuleReader();
    private final Judge judge = new Judge();
    private final RuleBook ruleBook = new RuleBook();
    private final WordBook wordBook = new WordBook();
    private final Letter[] post = new Letter[MOST_LETTERS];
    private final Marks marks = new Marks();
    private final Scales scales = new Scales();
    private final int[] measures = new int[MOST_MEASURES];
    private final int[] weights = new int[MOST_LETTERS];
    private final int[] hand = new int[Net.MOST_HOUSES];
    private int now;
    private int lists;
    private int written;
    private int measured;

    public UnaskedLetters() {
        now = 0;
    }

    // ---- houses, roads, names

    public int house() {
        return net.addHouse();
    }

    public boolean up(int house, boolean is) {
        if (!net.hasHouse(house) || net.isUp[house] == is) {
            return false;
        }
        net.isUp[house] = is;
        return true;
    }

    public boolean road(int one, int other) {
        if (!net.hasHouse(one) || !net.hasHouse(other) || one == other || net.joined(one, other)) {
            return false;
        }
        net.join(one, other);
        return true;
    }

    public int name(int house, boolean trap) {
        return net.hasHouse(house) ? net.addName(house, trap) : NONE;
    }

    // ---- the tape

    public int feed(int a, int b, int c, int d, int e) {
        int more = Tape.bytesIn(a) + Tape.bytesIn(b) + Tape.bytesIn(c) + Tape.bytesIn(d) + Tape.bytesIn(e);
        if (tape.length + more > Tape.MOST) {
            return NONE;
        }
        tape.put(a);
        tape.put(b);
        tape.put(c);
        tape.put(d);
        tape.put(e);
        return tape.length;
    }

    public boolean end(int n) {
        if (n < 0 || n > tape.length) {
            return false;
        }
        tape.length = n;
        return true;
    }

    public int fault(int sort) {
        if (sort == 0) {
            return letterReader.faultOf(tape);
        }
        return sort == 1 ? ruleReader.faultOf(tape) : -2;
    }

    // ---- rules and lists

    public int rules(int of, boolean list, int from) {
        if (!hasRuler(of, list) || from < now || from > LAST_MINUTE || ruleBook.isFull()) {
            return NONE;
        }
        if (ruleReader.faultOf(tape) != NONE) {
            return NONE;
        }
        tape.length = 0;
        return ruleBook.add(of, list, now, from, ruleReader.takeCode());
    }

    public int force(int of, boolean list, int minute, int q) {
        if (!hasRuler(of, list) || minute < 0 || minute > LAST_MINUTE || !isPast(q)) {
            return NONE;
        }
        return ruleBook.inForce(of, list, minute, q);
    }

    public int list() {
        return lists < MOST_LISTS ? lists++ : NONE;
    }

    public boolean off(int list, int house) {
        return hasList(list) && net.hasHouse(house) && ruleBook.ask(list, house, now);
    }

    public int bars(int list, int house, int minute, int q) {
        if (!hasList(list) || !net.hasHouse(house) || !isPast(minute) || !isPast(q)) {
            return NONE;
        }
        marks.know(q);
        return barred(list, house, minute, q) ? 1 : 0;
    }

    public int harm(int list) {
        if (!hasList(list)) {
            return NONE;
        }
        marks.know(now);
        int harmed = 0;
        for (int house = 0; house < net.houses; house++) {
            if (barred(list, house, now, now)) {
                harmed += goodLettersFrom(house);
            }
        }
        return harmed;
    }

    // ---- letters

    public int write(int from, int to, boolean signed, int stamp) {
        if (!net.hasName(from) || !net.hasName(to) || from == to) {
            return NONE;
        }
        if (stamp < 0 || stamp > MOST_STAMP || written >= MOST_LETTERS) {
            return NONE;
        }
        if (letterReader.faultOf(tape) != NONE) {
            return NONE;
        }
        Letter letter = new Letter(from, to, signed, stamp, now);
        letterReader.see(tape, false);
        letter.plain = Arrays.copyOf(letterReader.row, letterReader.count);
        letterReader.see(tape, true);
        takeWords(letter);
        tape.length = 0;
        post[written] = letter;
        return written++;
    }

    public int words(int letter, int reader) {
        Letter one = letterAt(letter);
        if (one == null) {
            return NONE;
        }
        if (reader == 0) {
            return one.plain.length;
        }
        return reader == 1 ? one.full.length : NONE;
    }

    public int read(int letter, int reader, int i, int k) {
        Letter one = letterAt(letter);
        if (one == null || i < 0) {
            return NONE;
        }
        if (reader == 0) {
            return i < one.plain.length ? Word.byteOf(one.plain[i], k) : NONE;
        }
        return reader == 1 && i < one.full.length ? Word.byteOf(one.full[i].text, k) : NONE;
    }

    public int unlike(int letter) {
        Letter one = letterAt(letter);
        if (one == null) {
            return NONE;
        }
        int both = Math.min(one.plain.length, one.full.length);
        for (int i = 0; i < both; i++) {
            if (one.plain[i] != one.full[i].text) {
                return i;
            }
        }
        return one.plain.length == one.full.length ? NONE : both;
    }

    public int letter(int letter, int what) {
        Letter one = letterAt(letter);
        if (one == null) {
            return NONE;
        }
        switch (what) {
            case 0: return one.state;
            case 1: return one.tries;
            case 2: return one.due;
            case 3: return one.minute;
            case 4: return one.from;
            case 5: return one.to;
            default: return NONE;
        }
    }

    public int why(int letter) {
        Letter one = letterAt(letter);
        return one == null ? NONE : one.clause;
    }

    public int minutes(int n) {
        if (n < 0 || n > MOST_MINUTES || now + n > LAST_MINUTE) {
            return NONE;
        }
        // No mark is told between these minutes, so what is learnt now holds in all of them.
        learn(now);
        for (int i = 0; i < n; i++) {
            now++;
            for (int k = 0; k < written; k++) {
                if (post[k].due == now) {
                    tryLetter(k);
                }
            }
        }
        return now;
    }

    // ---- marks and weights

    public boolean mark(int letter, boolean good) {
        return letterAt(letter) != null && marks.add(letter, good, now);
    }

    public int weight(int letter, int q) {
        Letter one = knownLetter(letter, q);
        if (one == null) {
            return NO_WEIGHT;
        }
        learn(q);
        return scales.weigh(one.own, one.owned);
    }

    public int decides(int letter, int q, int i) {
        Letter one = knownLetter(letter, q);
        if (one == null) {
            return NONE;
        }
        learn(q);
        scales.weigh(one.own, one.owned);
        if (i == NONE) {
            return scales.picks;
        }
        if (i < 0 || i >= scales.picks) {
            return NONE;
        }
        return one.firstAt[scales.pickAt[i]];
    }

    public int moved(int letter, boolean good) {
        Letter one = letterAt(letter);
        if (one == null) {
            return NO_WEIGHT;
        }
        learn(now);
        int before = scales.weigh(one.own, one.owned);
        marks.known[letter] = good ? Marks.GOOD : Marks.BAD;
        learnMarked();
        return scales.weigh(one.own, one.owned) - before;
    }

    public int lose(int line, int q, int what) {
        if (!isPast(q) || what < 0 || what > 1) {
            return NONE;
        }
        weighMarked(q);
        return what == 0 ? lostAbove(line) : letBelow(line);
    }

    public int best(int q) {
        if (!isPast(q)) {
            return NO_WEIGHT;
        }
        weighMarked(q);
        boolean any = false;
        int bestLine = NO_WEIGHT;
        int bestCost = 0;
        for (int k = 0; k < written; k++) {
            if (marks.known[k] != 0) {
                int line = weights[k];
                int cost = letBelow(line) + LOST_COSTS * lostAbove(line);
                if (!any || cost < bestCost || cost == bestCost && line < bestLine) {
                    any = true;
                    bestLine = line;
                    bestCost = cost;
                }
            }
        }
        return bestLine;
    }

    // ---- paths

    public int path(int letter, int house, int minute) {
        Letter one = letterAt(letter);
        if (one == null || !net.hasHouse(house) || minute < 0 || minute > LAST_MINUTE) {
            return NONE;
        }
        return one.addStep(house, minute);
    }

    public int falsely(int letter) {
        Letter one = letterAt(letter);
        if (one == null || one.steps == 0) {
            return NONE;
        }
        for (int i = 1; i < one.steps; i++) {
            if (!net.joined(one.stepHouse[i - 1], one.stepHouse[i]) || one.stepMinute[i] < one.stepMinute[i - 1]) {
                return i;
            }
        }
        return one.stepHouse[one.steps - 1] == net.home[one.to] ? NONE : one.steps;
    }

    // ---- traps and shops

    public boolean give(int name, int shops) {
        if (!net.hasName(name) || shops < 0 || shops > ALL_SHOPS) {
            return false;
        }
        net.shops[name] |= shops;
        return true;
    }

    public int spread(int house) {
        if (!net.hasHouse(house)) {
            return NONE;
        }
        net.clearReached();
        for (int k = 0; k < written; k++) {
            if (net.home[post[k].from] == house && !isAsked(k)) {
                net.reached[post[k].to] = true;
            }
        }
        int least = NONE;
        for (int set = 0; set <= ALL_SHOPS; set++) {
            if (net.explains(set) && (least == NONE || isAhead(set, least))) {
                least = set;
            }
        }
        return least;
    }

    // ---- swaps, stamps, hands, measures

    public int swap() {
        int blank = tape.wordEnd(0);
        if (wordBook.swaps >= WordBook.MOST_SWAPS || tape.at(blank) != ' ') {
            return NONE;
        }
        int end = tape.wordEnd(blank + 1);
        if (end != tape.length || !Word.isLength(blank) || !Word.isLength(end - blank - 1)) {
            return NONE;
        }
        Word first = wordBook.find(tape.spell(0, blank));
        Word second = wordBook.find(tape.spell(blank + 1, end));
        tape.length = 0;
        return wordBook.addSwap(first, second);
    }

    public int round(int letter, int line, int what) {
        Letter one = letterAt(letter);
        if (one == null || what < 0 || what > 2) {
            return NONE;
        }
        learn(now);
        int least = NONE;
        int ways = 0;
        for (int made = 0; made < 1 << wordBook.swaps; made++) {
            if (scales.weigh(wordBook.changed, wordBook.change(one, made)) > line) {
                continue;
            }
            boolean as = least != NONE && Integer.bitCount(made) == Integer.bitCount(least);
            boolean fewer = least == NONE || Integer.bitCount(made) < Integer.bitCount(least);
            ways = fewer ? 1 : as ? ways + 1 : ways;
            least = least == NONE || isAhead(made, least) ? made : least;
        }
        if (least == NONE) {
            return NONE;
        }
        return what == 0 ? Integer.bitCount(least) : what == 1 ? ways : least;
    }

    public int ends(int letters, int price, int answers, int gain) {
        if (letters < 0 || letters > 1_000_000 || answers < 0 || answers > 1_000_000) {
            return NONE;
        }
        if (price < 0 || price > 1_000 || gain < 0 || gain > 1_000) {
            return NONE;
        }
        long brings = (long) answers * gain;
        for (int stamp = 0; stamp <= MOST_STAMP; stamp++) {
            if (((long) letters * price << stamp) > brings) {
                return stamp;
            }
        }
        return NONE;
    }

    public int hands(int q) {
        if (!isPast(q)) {
            return NONE;
        }
        Arrays.fill(hand, NONE);
        int known = 0;
        for (int k = 0; k < written && post[k].minute <= q; k++) {
            int home = net.home[post[k].from];
            if (hand[home] == NONE) {
                hand[home] = home;
            }
            known++;
        }
        for (int k = 1; k < known; k++) {
            joinHands(k);
        }
        int count = 0;
        for (int home = 0; home < hand.length; home++) {
            count += hand[home] == home ? 1 : 0;
        }
        return count;
    }

    public int measure(int letters) {
        if (letters < 0 || letters >= 1 << PLANNED_LETTERS || measured >= MOST_MEASURES) {
            return NONE;
        }
        measures[measured] = letters;
        return measured++;
    }

    public int plan(int good, int what) {
        if (good < 0 || good > PLANNED_LETTERS || what < 0 || what > 1) {
            return NONE;
        }
        marks.know(now);
        int goods = markedBits(Marks.GOOD);
        int bads = markedBits(Marks.BAD);
        int chosen = 0;
        int most = 0;
        for (int set = 1; set < 1 << measured; set++) {
            int stopped = stoppedBy(set);
            int stops = Integer.bitCount(stopped & bads);
            boolean better = stops > most || stops == most && isAhead(set, chosen);
            if (better && Integer.bitCount(stopped & goods) <= good) {
                chosen = set;
                most = stops;
            }
        }
        return what == 0 ? chosen : most;
    }

    public int count(int what) {
        switch (what) {
            case 0: return now;
            case 1: return net.houses;
            case 2: return net.names;
            case 3: return written;
            case 4: return inState(Letter.BOX);
            case 5: return inState(Letter.THROWN);
            case 6: return inState(Letter.BACK);
            case 7: return inState(Letter.LOST);
            case 8: return ruleBook.told;
            case 9: return lists;
            case 10: return marks.told;
            case 11: return wordBook.swaps;
            case 12: return measured;
            case 13: return tape.length;
            default: return NONE;
        }
    }

    // ---- what the calls above share

    private boolean isPast(int minute) {
        return minute >= 0 && minute <= now;
    }

    private boolean hasList(int list) {
        return list >= 0 && list < lists;
    }

    private boolean hasRuler(int of, boolean list) {
        return list ? hasList(of) : net.hasHouse(of);
    }

    private Letter letterAt(int letter) {
        return letter >= 0 && letter < written ? post[letter] : null;
    }

    private Letter knownLetter(int letter, int q) {
        Letter one = letterAt(letter);
        return one != null && isPast(q) && one.minute <= q ? one : null;
    }

    private int inState(int state) {
        int count = 0;
        for (int k = 0; k < written; k++) {
            count += post[k].state == state ? 1 : 0;
        }
        return count;
    }

    /** Whether a set has fewer members, or the lower one where two of one size first differ. */
    private static boolean isAhead(int set, int other) {
        int size = Integer.bitCount(set);
        int otherSize = Integer.bitCount(other);
        if (size != otherSize) {
            return size < otherSize;
        }
        int differ = set ^ other;
        return (set & differ & -differ) != 0;
    }

    private void takeWords(Letter letter) {
        int count = letterReader.count;
        letter.full = new Word[count];
        letter.own = new Word[count];
        letter.firstAt = new int[count];
        wordBook.lookAnew();
        for (int i = 0; i < count; i++) {
            Word word = wordBook.find(letterReader.row[i]);
            letter.full[i] = word;
            if (wordBook.isNew(word)) {
                letter.own[letter.owned] = word;
                letter.firstAt[letter.owned] = i;
                letter.owned++;
            }
        }
    }

    /** Whether the name that got this letter had written to its writer ahead of it. */
    private boolean isAsked(int number) {
        Letter one = post[number];
        for (int k = 0; k < number; k++) {
            if (post[k].from == one.to && post[k].to == one.from) {
                return true;
            }
        }
        return false;
    }

    private void tryLetter(int number) {
        Letter one = post[number];
        int home = net.home[one.to];
        if (!net.isUp[home]) {
            one.delay(now + DOWN_DELAY, Letter.LOST);
            return;
        }
        int[] code = ruleBook.codeOf(ruleBook.inForce(home, false, now, now));
        one.clause = NONE;
        if (code == null) {
            one.settle(Letter.BOX);
            return;
        }
        int barring = listsBarring(net.home[one.from]);
        setLetters(number, barring);
        sort(one, code);
    }

    private void sort(Letter one, int[] code) {
        if (judge.worthOf('t', code) != 0) {
            one.settle(Letter.THROWN);
        } else if (judge.worthOf('b', code) != 0) {
            one.settle(Letter.BACK);
        } else if (judge.worthOf('d', code) > 0) {
            one.delay(now + Math.min(judge.worth, MOST_DELAY), Letter.BACK);
        } else {
            one.settle(Letter.BOX);
            return;
        }
        one.clause = judge.clause;
    }

    private void setLetters(int number, int barring) {
        Letter one = post[number];
        judge.clear();
        judge.set('w', scales.weigh(one.own, one.owned));
        judge.set('l', barring);
        judge.set('s', one.signed ? 1 : 0);
        judge.set('k', one.stamp);
        judge.set('n', one.tries);
        judge.set('a', now - one.minute);
        judge.set('u', isAsked(number) ? 1 : 0);
        judge.set('h', net.home[one.from]);
    }

    private int listsBarring(int house) {
        int barring = 0;
        for (int list = 0; list < lists; list++) {
            barring += barred(list, house, now, now) ? 1 : 0;
        }
        return barring;
    }

    /** The marks must be known as in q. */
    private boolean barred(int list, int house, int minute, int q) {
        int[] code = ruleBook.codeOf(ruleBook.inForce(list, true, minute, q));
        if (code == null) {
            return false;
        }
        int until = Math.min(minute, q);
        int trapped = 0;
        int sent = 0;
        int bad = 0;
        for (int k = 0; k < written && post[k].minute <= until; k++) {
            if (net.home[post[k].from] == house) {
                sent++;
                trapped += net.trap[post[k].to] ? 1 : 0;
                bad += marks.known[k] == Marks.BAD ? 1 : 0;
            }
        }
        int asked = ruleBook.lastAsked(list, house, until);
        judge.clear();
        judge.set('r', trapped);
        judge.set('m', sent);
        judge.set('y', bad);
        judge.set('o', asked == NONE ? NEVER_ASKED : minute - asked);
        judge.set('h', house);
        return judge.worthOf('x', code) != 0;
    }

    private int goodLettersFrom(int house) {
        int count = 0;
        for (int k = 0; k < written; k++) {
            if (marks.known[k] == Marks.GOOD && net.home[post[k].from] == house) {
                count++;
            }
        }
        return count;
    }

    private void learn(int q) {
        marks.know(q);
        learnMarked();
    }

    private void learnMarked() {
        scales.forget();
        for (int k = 0; k < written; k++) {
            if (marks.known[k] != 0) {
                scales.learn(post[k], marks.known[k] == Marks.GOOD);
            }
        }
    }

    private void weighMarked(int q) {
        learn(q);
        for (int k = 0; k < written; k++) {
            weights[k] = marks.known[k] == 0 ? 0 : scales.weigh(post[k].own, post[k].owned);
        }
    }

    private int lostAbove(int line) {
        int count = 0;
        for (int k = 0; k < written; k++) {
            count += marks.known[k] == Marks.GOOD && weights[k] > line ? 1 : 0;
        }
        return count;
    }

    private int letBelow(int line) {
        int count = 0;
        for (int k = 0; k < written; k++) {
            count += marks.known[k] == Marks.BAD && weights[k] <= line ? 1 : 0;
        }
        return count;
    }

    private void joinHands(int number) {
        int mine = net.home[post[number].from];
        for (int k = 0; k < number; k++) {
            int other = net.home[post[k].from];
            if (hand[other] != hand[mine] && post[k].readsAs(post[number])) {
                int gone = Math.max(hand[other], hand[mine]);
                int kept = Math.min(hand[other], hand[mine]);
                for (int home = 0; home < hand.length; home++) {
                    hand[home] = hand[home] == gone ? kept : hand[home];
                }
            }
        }
    }

    private int markedBits(int as) {
        int bits = 0;
        for (int k = 0; k < written && k < PLANNED_LETTERS; k++) {
            bits |= marks.known[k] == as ? 1 << k : 0;
        }
        return bits;
    }

    private int stoppedBy(int set) {
        int stopped = 0;
        for (int i = 0; i < measured; i++) {
            stopped |= (set >> i & 1) != 0 ? measures[i] : 0;
        }
        return stopped;
    }

    /** Houses, roads and names. */
    private static final class Net {
        static final int MOST_HOUSES = 12;
        static final int MOST_NAMES = 40;

        final boolean[] isUp = new boolean[MOST_HOUSES];
        final int[] roads = new int[MOST_HOUSES];
        final int[] home = new int[MOST_NAMES];
        final boolean[] trap = new boolean[MOST_NAMES];
        final int[] shops = new int[MOST_NAMES];
        final boolean[] reached = new boolean[MOST_NAMES];
        int houses;
        int names;

        boolean hasHouse(int house) {
            return house >= 0 && house < houses;
        }

        boolean hasName(int name) {
            return name >= 0 && name < names;
        }

        int addHouse() {
            if (houses >= MOST_HOUSES) {
                return NONE;
            }
            isUp[houses] = true;
            return houses++;
        }

        int addName(int house, boolean isTrap) {
            if (names >= MOST_NAMES) {
                return NONE;
            }
            home[names] = house;
            trap[names] = isTrap;
            return names++;
        }

        boolean joined(int one, int other) {
            return (roads[one] >> other & 1) != 0;
        }

        void join(int one, int other) {
            roads[one] |= 1 << other;
            roads[other] |= 1 << one;
        }

        void clearReached() {
            for (int i = 0; i < names; i++) {
                reached[i] = false;
            }
        }

        /** Whether each name that was reached was given to one of these shops. */
        boolean explains(int set) {
            for (int i = 0; i < names; i++) {
                if (reached[i] && (shops[i] & set) == 0) {
                    return false;
                }
            }
            return true;
        }
    }

    private static final class Tape {
        static final int MOST = 160;

        final char[] bytes = new char[MOST];
        int length;

        static int bytesIn(int number) {
            int count = 0;
            for (int shift = 24; shift >= 0; shift -= 8) {
                count += (number >>> shift & 255) != 0 ? 1 : 0;
            }
            return count;
        }

        void put(int number) {
            for (int shift = 24; shift >= 0; shift -= 8) {
                int c = number >>> shift & 255;
                if (c != 0 && length < MOST) {
                    bytes[length] = (char) c;
                    length++;
                }
            }
        }

        /** The byte there, or NONE outside. */
        int at(int i) {
            return i >= 0 && i < length ? bytes[i] : NONE;
        }

        int wordEnd(int from) {
            int end = from;
            while (end < length && Word.isByte(at(end))) {
                end++;
            }
            return end;
        }

        long spell(int from, int end) {
            long text = 0;
            for (int i = from; i < end; i++) {
                text = Word.longer(text, at(i));
            }
            return text;
        }
    }

    /** Reads the text of a letter: its fault, and the row of words that a reader sees. */
    private static final class LetterReader {
        private static final int MOST_BRACES = 5;
        private static final String FIGURES = "0135";
        private static final String FOLDED = "oles";

        final long[] row = new long[Tape.MOST];
        int count;
        private long word;
        private int length;

        int faultOf(Tape tape) {
            int open = 0;
            int hexes = 0;
            boolean begins = true;
            boolean coded = false;
            boolean inBytes = false;
            for (int at = 0; at < tape.length; at++) {
                int c = tape.at(at);
                if (hexes > 0) {
                    if (hexOf(c) == NONE) {
                        return at;
                    }
                    hexes--;
                } else if (begins && c == 'm') {
                    at++;
                    if (tape.at(at) != '{' || open >= MOST_BRACES) {
                        return at;
                    }
                    open++;
                } else if (begins && (c == 'p' || c == 'q')) {
                    begins = false;
                    inBytes = true;
                    coded = c == 'q';
                } else if (inBytes && coded && c == '=') {
                    hexes = 2;
                } else if (!begins && c == ';') {
                    begins = true;
                    inBytes = false;
                } else if (!begins && c == '}' && open > 0) {
                    open--;
                    inBytes = false;
                } else if (!inBytes || !Word.isByte(c) && c != ' ') {
                    return at;
                }
            }
            return begins || open > 0 || hexes > 0 ? tape.length : NONE;
        }

        private static int hexOf(int c) {
            if (c >= '0' && c <= '9') {
                return c - '0';
            }
            return c >= 'a' && c <= 'f' ? c - 'a' + 10 : NONE;
        }

        /** The tape must have no fault. */
        void see(Tape tape, boolean full) {
            count = 0;
            word = 0;
            length = 0;
            boolean begins = true;
            boolean coded = false;
            for (int at = 0; at < tape.length; at++) {
                int c = tape.at(at);
                if (begins) {
                    coded = c == 'q';
                    begins = c == 'm' || c == '{';
                } else if (c == ';') {
                    begins = true;
                    take(' ');
                } else if (full && coded && c == '=') {
                    take(folded(16 * hexOf(tape.at(at + 1)) + hexOf(tape.at(at + 2))));
                    at += 2;
                } else {
                    take(full ? folded(c) : c);
                }
            }
            take(' ');
        }

        private void take(int c) {
            if (!Word.isByte(c)) {
                if (length > 0 && count < row.length) {
                    row[count] = word;
                    count++;
                }
                word = 0;
                length = 0;
            } else if (length < Word.MOST) {
                word = Word.longer(word, c);
                length++;
            }
        }

        private static int folded(int c) {
            int figure = FIGURES.indexOf((char) c);
            return figure >= 0 && figure < FOLDED.length() ? FOLDED.charAt(figure) : c;
        }
    }

    /**
     * Reads the tape as rules: its fault, and a code in which each sign stands behind what it joins,
     * so that a judge can walk it in one row.
     */
    private static final class RuleReader {
        static final String LETTERS = "wlsknauhrmyo";
        static final int LETTER = 10_000;
        static final int SIGN = 20_000;
        private static final String LABELS = "tbdx";
        private static final int MOST_DEEP = 6;
        private static final int MOST_DIGITS = 4;

        private final int[] code = new int[2 * Tape.MOST];
        private Tape tape;
        private int size;
        private int at;

        int faultOf(Tape read) {
            tape = read;
            size = 0;
            at = 0;
            // Blanks stand between signs alone: one ahead of all of them is a fault, and behind one a sign must follow.
            if (tape.at(0) == ' ') {
                return 0;
            }
            for (int i = 0; i <= Tape.MOST; i++) {
                if (!readClause()) {
                    return at;
                }
                if (ahead() == NONE) {
                    return tape.at(at - 1) == ' ' ? at : NONE;
                }
                if (!pass(';')) {
                    return at;
                }
            }
            return at;
        }

        int[] takeCode() {
            return Arrays.copyOf(code, size);
        }

        private int ahead() {
            while (at < tape.length && tape.at(at) == ' ') {
                at++;
            }
            return tape.at(at);
        }

        private boolean pass(int c) {
            if (ahead() != c) {
                return false;
            }
            at++;
            return true;
        }

        private void add(int step) {
            if (size < code.length) {
                code[size] = step;
                size++;
            }
        }

        private boolean readClause() {
            int label = ahead();
            if (label == NONE || LABELS.indexOf((char) label) < 0) {
                return false;
            }
            at++;
            add(SIGN + label);
            if (!pass(':')) {
                return false;
            }
            int c = ahead();
            boolean begun = c != '!' && c != '(';
            if (begun && !readSum(0)) {
                return false;
            }
            if (!begun || isComparison(ahead())) {
                if (!readCondition(0, begun) || !pass('?')) {
                    return false;
                }
                add(SIGN + '?');
                if (!readSum(0)) {
                    return false;
                }
            }
            add(SIGN + ';');
            return true;
        }

        private static boolean isComparison(int c) {
            return c == '=' || c == '<' || c == '>';
        }

        /** Begun: the first sum of it has been read. */
        private boolean readCondition(int depth, boolean begun) {
            if (!readTruths(depth, begun)) {
                return false;
            }
            for (int i = 0; i < Tape.MOST && pass('|'); i++) {
                if (!readTruths(depth, false)) {
                    return false;
                }
                add(SIGN + '|');
            }
            return true;
        }

        private boolean readTruths(int depth, boolean begun) {
            if (!readUnit(depth, begun)) {
                return false;
            }
            for (int i = 0; i < Tape.MOST && pass('&'); i++) {
                if (!readUnit(depth, false)) {
                    return false;
                }
                add(SIGN + '&');
            }
            return true;
        }

        private boolean readUnit(int depth, boolean begun) {
            int c = ahead();
            if (!begun && (c == '!' || c == '(')) {
                if (depth >= MOST_DEEP) {
                    return false;
                }
                at++;
                if (c == '(') {
                    return readCondition(depth + 1, false) && pass(')');
                }
                if (!readUnit(depth + 1, false)) {
                    return false;
                }
                add(SIGN + '!');
                return true;
            }
            if (!begun && !readSum(depth)) {
                return false;
            }
            int sign = ahead();
            if (!isComparison(sign)) {
                return false;
            }
            at++;
            if (!readSum(depth)) {
                return false;
            }
            add(SIGN + sign);
            return true;
        }

        private boolean readSum(int depth) {
            if (!readTerm(depth)) {
                return false;
            }
            for (int i = 0; i < Tape.MOST; i++) {
                int sign = ahead();
                if (sign != '+' && sign != '-') {
                    return true;
                }
                at++;
                if (!readTerm(depth)) {
                    return false;
                }
                add(SIGN + sign);
            }
            return true;
        }

        private boolean readTerm(int depth) {
            if (!readAtom(depth)) {
                return false;
            }
            for (int i = 0; i < Tape.MOST; i++) {
                int sign = ahead();
                if (sign != '*' && sign != '/') {
                    return true;
                }
                at++;
                if (!readAtom(depth)) {
                    return false;
                }
                add(SIGN + sign);
            }
            return true;
        }

        private boolean readAtom(int depth) {
            int c = ahead();
            if (c >= '0' && c <= '9') {
                return readNumber();
            }
            if (c == '[') {
                if (depth >= MOST_DEEP) {
                    return false;
                }
                at++;
                return readSum(depth + 1) && pass(']');
            }
            int letter = c == NONE ? NONE : LETTERS.indexOf((char) c);
            if (letter < 0) {
                return false;
            }
            at++;
            add(LETTER + letter);
            return true;
        }

        private boolean readNumber() {
            int number = 0;
            int digits = 0;
            while (at < tape.length && tape.at(at) >= '0' && tape.at(at) <= '9') {
                if (digits == MOST_DIGITS) {
                    return false;
                }
                number = 10 * number + tape.at(at) - '0';
                digits++;
                at++;
            }
            add(number);
            return true;
        }
    }

    /** Works out what a label of some rules is worth, for letters set before. */
    private static final class Judge {
        private static final int MOST = 1_000_000;

        private final int[] values = new int[RuleReader.LETTERS.length()];
        private final int[] stack = new int[64];
        private int height;
        private int at;
        private boolean holds;
        int worth;
        int clause;

        void clear() {
            Arrays.fill(values, 0);
        }

        void set(char letter, int value) {
            int i = RuleReader.LETTERS.indexOf(letter);
            if (i >= 0 && i < values.length) {
                values[i] = value;
            }
        }

        int worthOf(char label, int[] code) {
            height = 0;
            at = 0;
            holds = false;
            worth = 0;
            clause = NONE;
            for (int i = 0; i < code.length && clause == NONE; i++) {
                int step = code[i];
                if (step >= RuleReader.SIGN) {
                    act(step - RuleReader.SIGN, label);
                } else if (step < RuleReader.LETTER) {
                    push(step);
                } else if (step - RuleReader.LETTER < values.length) {
                    push(values[step - RuleReader.LETTER]);
                }
            }
            return worth;
        }

        private void act(int sign, char label) {
            switch (sign) {
                case 't':
                case 'b':
                case 'd':
                case 'x':
                    holds = sign == label;
                    break;
                case '?':
                    holds = pop() != 0 && holds;
                    break;
                case ';':
                    int sum = pop();
                    worth = holds ? sum : 0;
                    clause = holds ? at : NONE;
                    at++;
                    break;
                case '!':
                    push(pop() == 0 ? 1 : 0);
                    break;
                default:
                    int second = pop();
                    int first = pop();
                    push(bounded(joined(sign, first, second)));
                    break;
            }
        }

        private static long joined(int sign, long first, long second) {
            switch (sign) {
                case '=': return first == second ? 1 : 0;
                case '<': return first < second ? 1 : 0;
                case '>': return first > second ? 1 : 0;
                case '&': return first & second;
                case '|': return first | second;
                case '/': return second == 0 ? 0 : first / second;
                case '+': return first + second;
                case '-': return first - second;
                case '*': return first * second;
                default: return 0;
            }
        }

        private static int bounded(long result) {
            return (int) Math.max(-MOST, Math.min(MOST, result));
        }

        private void push(int value) {
            if (height < stack.length) {
                stack[height] = value;
                height++;
            }
        }

        private int pop() {
            if (height <= 0) {
                return 0;
            }
            height--;
            return stack[height];
        }
    }

    /** The texts of rules, as codes, and which houses were asked off which lists. */
    private static final class RuleBook {
        private static final int MOST = 20;
        private static final int MOST_ASKED = 100;

        private final int[] ruler = new int[MOST];
        private final boolean[] isOfList = new boolean[MOST];
        private final int[] toldIn = new int[MOST];
        private final int[] from = new int[MOST];
        private final int[][] codes = new int[MOST][];
        int told;
        private final int[] askedList = new int[MOST_ASKED];
        private final int[] askedHouse = new int[MOST_ASKED];
        private final int[] askedIn = new int[MOST_ASKED];
        private int asked;

        boolean isFull() {
            return told >= MOST;
        }

        int add(int of, boolean isList, int minute, int fromMinute, int[] code) {
            if (isFull()) {
                return NONE;
            }
            ruler[told] = of;
            isOfList[told] = isList;
            toldIn[told] = minute;
            from[told] = fromMinute;
            codes[told] = code;
            return told++;
        }

        /** The code of the rules of this number, or null. */
        int[] codeOf(int number) {
            return number >= 0 && number < told ? codes[number] : null;
        }

        int inForce(int of, boolean isList, int minute, int q) {
            int found = NONE;
            int latest = NONE;
            for (int i = 0; i < told && toldIn[i] <= q; i++) {
                boolean isTheirs = ruler[i] == of && isOfList[i] == isList;
                if (isTheirs && from[i] <= minute && from[i] >= latest) {
                    found = i;
                    latest = from[i];
                }
            }
            return found;
        }

        boolean ask(int list, int house, int minute) {
            if (asked >= MOST_ASKED) {
                return false;
            }
            askedList[asked] = list;
            askedHouse[asked] = house;
            askedIn[asked] = minute;
            asked++;
            return true;
        }

        /** The last minute up to this one, or NONE. */
        int lastAsked(int list, int house, int until) {
            int last = NONE;
            for (int i = 0; i < asked && askedIn[i] <= until; i++) {
                if (askedList[i] == list && askedHouse[i] == house) {
                    last = askedIn[i];
                }
            }
            return last;
        }
    }

    /**
     * A word of some letter or swap. Its text of up to 12 bytes is one number of base 37 (no digit is 0), so that
     * words compare as numbers. There is one object for each, so that what is learnt of a word is kept in it.
     */
    private static final class Word {
        static final int MOST = 12;
        private static final int BASE = 37;

        final long text;
        final Word next;
        int learntIn;
        int seenIn;
        int good;
        int bad;

        Word(long text, Word next) {
            this.text = text;
            this.next = next;
        }

        static boolean isLength(int length) {
            return length >= 1 && length <= MOST;
        }

        static boolean isByte(int c) {
            return c >= 'a' && c <= 'z' || c >= '0' && c <= '9';
        }

        static long longer(long text, int c) {
            return text * BASE + (c >= 'a' ? c - 'a' + 11 : c - '0' + 1);
        }

        /** Byte k of a text, or NONE outside. */
        static int byteOf(long text, int k) {
            int length = 0;
            for (long rest = text; rest > 0 && length < MOST; rest /= BASE) {
                length++;
            }
            if (k < 0 || k >= length) {
                return NONE;
            }
            long rest = text;
            for (int i = length - 1; i > k; i--) {
                rest /= BASE;
            }
            int digit = (int) (rest % BASE);
            return digit > 10 ? digit - 11 + 'a' : digit - 1 + '0';
        }
    }

    /** All words, each once, and the swaps of words. */
    private static final class WordBook {
        static final int MOST_SWAPS = 8;
        private static final int CHAINS = 251;

        private final Word[] chains = new Word[CHAINS];
        private final Word[] first = new Word[MOST_SWAPS];
        private final Word[] second = new Word[MOST_SWAPS];
        final Word[] changed = new Word[Tape.MOST];
        int swaps;
        private int look;

        Word find(long text) {
            int chain = (int) Math.floorMod(text, (long) CHAINS);
            for (Word word = chains[chain]; word != null; word = word.next) {
                if (word.text == text) {
                    return word;
                }
            }
            chains[chain] = new Word(text, chains[chain]);
            return chains[chain];
        }

        void lookAnew() {
            look++;
        }

        /** Whether this word is asked for the first time since the last look began. */
        boolean isNew(Word word) {
            if (word.seenIn == look) {
                return false;
            }
            word.seenIn = look;
            return true;
        }

        int addSwap(Word from, Word to) {
            if (swaps >= MOST_SWAPS) {
                return NONE;
            }
            first[swaps] = from;
            second[swaps] = to;
            return swaps++;
        }

        /** Puts the words that these swaps make of a letter's, each once, into the row of changed ones: how many. */
        int change(Letter letter, int made) {
            int count = 0;
            lookAnew();
            for (int i = 0; i < letter.owned && count < changed.length; i++) {
                Word word = inPlaceOf(letter.own[i], made);
                if (isNew(word)) {
                    changed[count] = word;
                    count++;
                }
            }
            return count;
        }

        private Word inPlaceOf(Word word, int made) {
            for (int i = 0; i < swaps; i++) {
                if ((made >> i & 1) != 0 && first[i].text == word.text) {
                    return second[i];
                }
            }
            return word;
        }
    }

    private static final class Letter {
        static final int WRITTEN = 0;
        static final int BOX = 1;
        static final int THROWN = 2;
        static final int BACK = 3;
        static final int DELAYED = 4;
        static final int LOST = 5;
        private static final int MOST_STEPS = 6;

        final int from;
        final int to;
        final boolean signed;
        final int stamp;
        final int minute;
        int state = WRITTEN;
        int tries;
        int due;
        int clause = NONE;
        long[] plain;
        Word[] full;
        /** Its words each once, and where in the full row each stands first. */
        Word[] own;
        int[] firstAt;
        int owned;
        final int[] stepHouse = new int[MOST_STEPS];
        final int[] stepMinute = new int[MOST_STEPS];
        int steps;

        Letter(int from, int to, boolean signed, int stamp, int minute) {
            this.from = from;
            this.to = to;
            this.signed = signed;
            this.stamp = stamp;
            this.minute = minute;
            this.due = minute + 1;
        }

        void settle(int as) {
            state = as;
            due = NONE;
        }

        /** One try more; with the last one it ends as it is told. */
        void delay(int until, int otherwise) {
            tries++;
            state = DELAYED;
            due = until;
            if (tries >= MOST_TRIES) {
                settle(otherwise);
            }
        }

        int addStep(int house, int inMinute) {
            if (steps >= MOST_STEPS) {
                return NONE;
            }
            stepHouse[steps] = house;
            stepMinute[steps] = inMinute;
            steps++;
            return steps;
        }

        boolean readsAs(Letter other) {
            if (full.length != other.full.length) {
                return false;
            }
            for (int i = 0; i < full.length; i++) {
                if (full[i].text != other.full[i].text) {
                    return false;
                }
            }
            return true;
        }
    }

    /** The marks as they were told, and those known in the minute last asked for. */
    private static final class Marks {
        static final int GOOD = 1;
        static final int BAD = 2;
        private static final int MOST = 200;

        private final int[] letter = new int[MOST];
        private final int[] minute = new int[MOST];
        private final int[] as = new int[MOST];
        final int[] known = new int[MOST_LETTERS];
        int told;

        boolean add(int ofLetter, boolean good, int inMinute) {
            if (told >= MOST) {
                return false;
            }
            letter[told] = ofLetter;
            minute[told] = inMinute;
            as[told] = good ? GOOD : BAD;
            told++;
            return true;
        }

        void know(int q) {
            Arrays.fill(known, 0);
            for (int i = 0; i < told && minute[i] <= q; i++) {
                known[letter[i]] = as[i];
            }
        }
    }

    /** Weighs rows of words by the marked letters learnt before. */
    private static final class Scales {
        private static final int MOST_PICKS = 5;

        private final int[] pickWorth = new int[MOST_PICKS];
        final int[] pickAt = new int[MOST_PICKS];
        int picks;
        private int lesson;
        private int goods;
        private int bads;

        void forget() {
            lesson++;
            goods = 0;
            bads = 0;
        }

        void learn(Letter letter, boolean good) {
            goods += good ? 1 : 0;
            bads += good ? 0 : 1;
            for (int i = 0; i < letter.owned; i++) {
                Word word = letter.own[i];
                if (word.learntIn != lesson) {
                    word.learntIn = lesson;
                    word.good = 0;
                    word.bad = 0;
                }
                word.good += good ? 1 : 0;
                word.bad += good ? 0 : 1;
            }
        }

        /** The row must have each word once. */
        int weigh(Word[] row, int count) {
            picks = 0;
            if (goods == 0 || bads == 0) {
                return 0;
            }
            for (int i = 0; i < count && i < row.length; i++) {
                if (row[i].learntIn == lesson) {
                    pick(worthOf(row[i]), i);
                }
            }
            int sum = 0;
            for (int i = 0; i < picks; i++) {
                sum += pickWorth[i];
            }
            return sum;
        }

        private int worthOf(Word word) {
            int forBad = word.bad * goods;
            int forGood = word.good * bads;
            return forBad + forGood == 0 ? 0 : 1_000 * (forBad - forGood) / (forBad + forGood);
        }

        private void pick(int worth, int at) {
            int spot = picks;
            while (spot > 0 && Math.abs(pickWorth[spot - 1]) < Math.abs(worth)) {
                spot--;
            }
            if (spot >= MOST_PICKS) {
                return;
            }
            picks = Math.min(picks + 1, MOST_PICKS);
            for (int i = picks - 1; i > spot; i--) {
                pickWorth[i] = pickWorth[i - 1];
                pickAt[i] = pickAt[i - 1];
            }
            pickWorth[spot] = worth;
            pickAt[spot] = at;
        }
    }
}
