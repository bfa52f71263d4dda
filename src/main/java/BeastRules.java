import java.util.Arrays;
import java.util.NoSuchElementException;

/** A valley whose beasts are rules. The promises that it keeps are told in shared/DOC.md. */
public final class BeastRules {
    public static final int NONE = -1;

    private static final int TOO_MANY = -3;
    private static final int KINDS = 8;
    private static final int MOST_BEASTS = 20;
    private static final int MOST_RULES = 12;
    private static final int MOST_LEFT = 4;
    private static final int MOST_RIGHT = 5;
    private static final int MOST_FIELDS = 6;
    private static final int MOST_SEEN = 10;
    private static final int MOST_TEXTS = 10;
    private static final int MOST_BYTES = 400;
    private static final int BYTES_OF_A_FEED = 20;
    private static final int MOST_REMEMBERED = 16;
    private static final int MOST_MEADOWS = 1500;
    private static final int MOST_LISTED = 6;
    private static final int MOST_DROPPED = 8;
    private static final int MOST_FOG = 100;
    private static final int MOST_WEIGHT = 99;

    /** The MEADOW without BEASTS. */
    private static final long BARE = 1;

    private static final int WAY_LEFT = 0;
    private static final int WAY_RIGHT = 1;
    private static final int WAY_RULE = 2;
    private static final int WAY_ALL = 3;

    /** A turn is one number: so many times its PLACE, and the RULE. */
    private static final int TURN = 100;

    private final Text tape = new Text();

    private final Told now = new Told();
    private final Told draft = new Told();
    private final Law law = new Law();
    private final Law draftLaw = new Law();

    private final Told kept = new Told();
    private final Law keptLaw = new Law();
    private boolean isKept;

    /** What was ahead of the latest acts, as a ring: one behind the other, the oldest is overwritten. */
    private final Told[] memory = new Told[MOST_REMEMBERED];
    private int remembered;
    private int nextMemory;

    private final Walk walk = new Walk(now.rules, law);
    private final Herd herd = new Herd();
    private final Herd otherHerd = new Herd();
    private final Game game = new Game();
    private final Scales scales = new Scales();
    private final Crossings crossings = new Crossings();
    private final Guesses guesses = new Guesses();

    public BeastRules() {
        for (int i = 0; i < MOST_REMEMBERED; i++) {
            memory[i] = new Told();
        }
    }

    // ---- the TAPE and the texts

    public int feed(int a, int b, int c, int d, int e) {
        if (tape.size + BYTES_OF_A_FEED > MOST_BYTES) {
            return NONE;
        }
        tape.append(a);
        tape.append(b);
        tape.append(c);
        tape.append(d);
        tape.append(e);
        return tape.size;
    }

    public boolean end(int n) {
        if (n < 0 || n > tape.size) {
            return false;
        }
        tape.size = n;
        return true;
    }

    public int valley() throws IllegalArgumentException, UnsupportedOperationException {
        draft.copyFrom(now);
        boolean right = draft.read(tape);
        tape.size = 0;
        if (!right) {
            throw new IllegalArgumentException();
        }
        if (now.texts >= MOST_TEXTS) {
            throw new UnsupportedOperationException();
        }
        draft.texts++;
        now.copyFrom(draft);
        forgetActs();
        return now.texts;
    }

    public int law() throws IllegalArgumentException {
        boolean right = draftLaw.read(tape);
        tape.size = 0;
        if (!right) {
            throw new IllegalArgumentException();
        }
        law.copyFrom(draftLaw);
        forgetActs();
        return law.lines;
    }

    public int fault() {
        return tape.fault;
    }

    // ---- what was told

    public long rule(int rule, boolean right) throws IndexOutOfBoundsException {
        checkRule(rule);
        return right ? now.rules.right[rule] : now.rules.left[rule];
    }

    public long field(int field) throws IndexOutOfBoundsException {
        checkField(field);
        return now.fields[field].code;
    }

    public long seen(int seen, boolean became) throws IndexOutOfBoundsException {
        checkSeen(seen);
        return became ? now.seenThen[seen] : now.seenFirst[seen];
    }

    public int beast(long meadow, int k) throws IllegalArgumentException {
        checkCode(meadow);
        int size = sizeOf(meadow);
        return k < 0 || k >= size ? NONE : beastAt(meadow, size, k);
    }

    public int steps(int field) throws IndexOutOfBoundsException {
        checkField(field);
        return now.fields[field].gone;
    }

    public int maker(int field, int place, int what) throws IndexOutOfBoundsException, NoSuchElementException {
        checkField(field);
        Field meadow = now.fields[field];
        if (place < 0 || place >= sizeOf(meadow.code)) {
            throw new IndexOutOfBoundsException();
        }
        checkWhat(what, 2);
        return what == 0 ? meadow.makers[place] : meadow.makings[place];
    }

    public boolean fits(long meadow, int rule, int place) throws IndexOutOfBoundsException, IllegalArgumentException {
        checkRule(rule);
        checkCode(meadow);
        walk.begin(now);
        return walk.mayUse(rule, place, meadow, sizeOf(meadow));
    }

    // ---- acts

    public long use(int field, int rule, int place) throws IndexOutOfBoundsException, IllegalStateException {
        checkField(field);
        checkRule(rule);
        Field meadow = now.fields[field];
        walk.begin(now);
        if (!walk.mayUse(rule, place, meadow.code, sizeOf(meadow.code))) {
            throw new IllegalStateException();
        }
        remember();
        walk.turn(meadow, TURN * place + rule);
        return meadow.code;
    }

    public int run(int field, int n) throws IndexOutOfBoundsException, IllegalArgumentException {
        checkField(field);
        checkNumber(n, 1, 200);
        remember();
        walk.begin(now);
        int gone = 0;
        while (gone < n && walk.goOn(now.fields[field])) {
            gone++;
        }
        return gone;
    }

    public long put(int field, long meadow) throws IndexOutOfBoundsException, IllegalArgumentException {
        checkField(field);
        checkCode(meadow);
        remember();
        long before = now.fields[field].code;
        now.fields[field].tell(meadow);
        return before;
    }

    public int add(long left, long right) throws IllegalArgumentException, UnsupportedOperationException {
        checkCode(left);
        checkCode(right);
        checkNumber(sizeOf(left), 1, MOST_LEFT);
        checkNumber(sizeOf(right), 0, MOST_RIGHT);
        return addRule(left, right);
    }

    private int addRule(long left, long right) {
        if (now.rules.size >= MOST_RULES) {
            throw new UnsupportedOperationException();
        }
        remember();
        now.rules.append(left, right);
        return now.rules.size - 1;
    }

    public int drop(int rule) throws IndexOutOfBoundsException {
        checkRule(rule);
        remember();
        now.rules.remove(rule);
        return now.rules.size;
    }

    public int years(int field, int n) throws IndexOutOfBoundsException, IllegalArgumentException {
        checkField(field);
        checkNumber(n, 1, 200);
        remember();
        int used = 0;
        for (int i = 0; i < n; i++) {
            if (goYear(now.fields[field])) {
                used++;
            }
        }
        return used;
    }

    private boolean goYear(Field field) {
        boolean used = false;
        if (now.draw() % 100 >= now.fog) {
            walk.begin(now);
            int many = walk.listTurns(field.code);
            if (many > 0) {
                walk.turn(field, walk.turns[now.draw() % many]);
                used = true;
            }
        }
        now.year++;
        return used;
    }

    // ---- steps by WAY

    public long settles(long meadow, int n, boolean became) throws IllegalArgumentException {
        checkCode(meadow);
        checkNumber(n, 0, 500);
        walk.begin(now);
        long then = walk.settle(meadow, n);
        return then == NONE || became ? then : walk.gone;
    }

    public int again(long meadow, boolean first) throws IllegalArgumentException {
        checkCode(meadow);
        walk.begin(now);
        herd.begin(meadow);
        long here = meadow;
        for (int step = 1; step <= 500; step++) {
            here = walk.next(here);
            if (here == NONE) {
                return NONE;
            }
            // No MEADOW came twice up to here, so that the herd holds each under the number of its STEP.
            int earlier = herd.indexOf(here);
            if (earlier != NONE) {
                return first ? earlier : step;
            }
            herd.take(here, step);
        }
        return NONE;
    }

    public boolean alike(long meadow, long other) throws IllegalArgumentException {
        checkCode(meadow);
        checkCode(other);
        walk.begin(now);
        long then = walk.settle(meadow, 200);
        return then != NONE && then == walk.settle(other, 200);
    }

    public long endless() {
        walk.begin(now);
        int kinds = now.rules.kindsOfLefts();
        for (int size = 1; size <= 3; size++) {
            long last = (BARE << 3 * size) | figures(size);
            for (long code = BARE << 3 * size; code <= last; code++) {
                if ((kindsIn(code) & ~kinds) == 0 && walk.settle(code, 100) == NONE) {
                    return code;
                }
            }
        }
        return NONE;
    }

    public long reckons(int kind, int n) throws IllegalArgumentException {
        checkNumber(n, 0, 4);
        checkNumber(kind, 0, 3);
        walk.begin(now);
        return kind == 0 ? reckonsSums(n) : kind == 1 ? reckonsOrder(n) : reckonsEach(kind, n);
    }

    private long reckonsSums(int n) {
        for (int i = 0; i <= n; i++) {
            for (int j = 0; j <= n; j++) {
                long asked = withBeasts(withBeasts(withBeasts(BARE, 0, i), 1, 1), 0, j);
                if (!settlesTo(asked, withBeasts(BARE, 0, i + j))) {
                    return asked;
                }
            }
        }
        return NONE;
    }

    private long reckonsOrder(int n) {
        for (int choice = 0; choice < 1 << n; choice++) {
            long asked = BARE;
            for (int i = n - 1; i >= 0; i--) {
                asked = withBeasts(asked, choice >> i & 1, 1);
            }
            int many = Integer.bitCount(choice);
            if (!settlesTo(asked, withBeasts(withBeasts(BARE, 0, n - many), 1, many))) {
                return asked;
            }
        }
        return NONE;
    }

    private long reckonsEach(int kind, int n) {
        for (int i = 0; i <= n; i++) {
            long some = withBeasts(BARE, 0, i);
            long copied = withBeasts(some, 2, 1);
            long asked = kind == 2 ? copied : withBeasts(withBeasts(some, 0, i), 3, 1);
            long due = kind == 2 ? withBeasts(copied, 0, i) : some;
            if (!settlesTo(asked, due)) {
                return asked;
            }
        }
        return NONE;
    }

    private boolean settlesTo(long meadow, long due) {
        return walk.settle(meadow, 200) == due;
    }

    public int dropped(int fields) {
        walk.begin(now);
        int droppable = Math.min(MOST_DROPPED, now.rules.size);
        for (int many = 0; many <= droppable; many++) {
            for (int set = 0; set < 1 << droppable; set++) {
                if (Integer.bitCount(set) == many && settlesWithout(set, fields)) {
                    return set;
                }
            }
        }
        return NONE;
    }

    private boolean settlesWithout(int set, int fields) {
        walk.without = set;
        for (int i = 0; i < now.fieldCount; i++) {
            if ((fields >> i & 1) != 0 && walk.settle(now.fields[i].code, 100) == NONE) {
                return false;
            }
        }
        return true;
    }

    // ---- searches by any order

    public long becomes(long meadow, int n, int what) throws IllegalArgumentException, NoSuchElementException {
        checkCode(meadow);
        checkNumber(n, 0, 40);
        checkWhat(what, 4);
        walk.begin(now);
        if (!herd.spread(walk, meadow, n)) {
            return TOO_MANY;
        }
        switch (what) {
            case 0: return herd.size;
            case 1: return herd.mostBeasts();
            case 2: return herd.countSettled(walk);
            default: return herd.leastSettled(walk);
        }
    }

    public int fewest(long from, long to) throws IllegalArgumentException {
        checkCode(from);
        checkCode(to);
        walk.begin(now);
        herd.begin(from);
        // Each STEP that goes on finds one MEADOW more at least, so that there are never more STEPS than MEADOWS.
        for (int step = 0; step <= MOST_MEADOWS; step++) {
            if (herd.indexOf(to) != NONE) {
                return step;
            }
            if (!herd.goesOn()) {
                return NONE;
            }
            if (!herd.spreadOnce(walk)) {
                return TOO_MANY;
            }
        }
        return NONE;
    }

    public long meets(long one, long other, int n, boolean where) throws IllegalArgumentException {
        checkCode(one);
        checkCode(other);
        checkNumber(n, 0, 12);
        walk.begin(now);
        if (!herd.spread(walk, one, n) || !otherHerd.spread(walk, other, n)) {
            return TOO_MANY;
        }
        int fewest = NONE;
        long least = NONE;
        for (int i = 0; i < herd.size; i++) {
            int j = otherHerd.indexOf(herd.codes[i]);
            if (j != NONE) {
                int both = herd.far[i] + otherHerd.far[j];
                if (fewest == NONE || both < fewest || both == fewest && herd.codes[i] < least) {
                    fewest = both;
                    least = herd.codes[i];
                }
            }
        }
        return where ? least : fewest;
    }

    public int drovers(long meadow, int n) throws IllegalArgumentException {
        return play(meadow, n) ? game.worth : TOO_MANY;
    }

    public int best(long meadow, int n) throws IllegalArgumentException {
        return play(meadow, n) ? game.turn : TOO_MANY;
    }

    private boolean play(long meadow, int n) {
        checkCode(meadow);
        checkNumber(n, 1, 8);
        walk.begin(now);
        if (!herd.spread(walk, meadow, n)) {
            return false;
        }
        game.play(walk, herd, n);
        return true;
    }

    // ---- RULES looked at

    public long overlaps(int what) throws NoSuchElementException {
        checkWhat(what, 3);
        walk.beginLawless();
        crossings.survey(walk, what != 0);
        return what == 0 ? crossings.many : what == 1 ? crossings.unlike : crossings.firstUnlike;
    }

    public int complete() throws UnsupportedOperationException {
        walk.beginLawless();
        crossings.survey(walk, true);
        // A greater CODE never has fewer BEASTS, and RIGHT never has more of them here than LEFT.
        if (crossings.greater == NONE || sizeOf(crossings.greater) > MOST_LEFT) {
            return NONE;
        }
        return addRule(crossings.greater, crossings.lesser);
    }

    public int never(long from, long to, int beast) throws IllegalArgumentException, IndexOutOfBoundsException {
        checkCode(from);
        checkCode(to);
        checkBeastOrNone(beast);
        if (!scales.list(now.rules.kinds() | kindsIn(from) | kindsIn(to))) {
            return TOO_MANY;
        }
        scales.loadRules(now.rules);
        scales.loadPair(from, to);
        for (int modulus = 2; modulus <= 5; modulus++) {
            if (scales.findModulo(modulus)) {
                return beast == NONE ? modulus : scales.weights[beast];
            }
        }
        return NONE;
    }

    public int falls(int w, int beast) throws IllegalArgumentException, IndexOutOfBoundsException {
        checkNumber(w, 1, 5);
        checkBeastOrNone(beast);
        if (!scales.list(now.rules.kinds())) {
            return TOO_MANY;
        }
        scales.loadRules(now.rules);
        boolean found = scales.findFalling(w);
        if (beast == NONE) {
            return found ? 1 : 0;
        }
        return found ? scales.weights[beast] : NONE;
    }

    public int light(long meadow) throws IllegalArgumentException {
        checkCode(meadow);
        return now.weigh(meadow);
    }

    public int loss(int rule) throws IndexOutOfBoundsException {
        checkRule(rule);
        return now.weigh(now.rules.left[rule]) - now.weigh(now.rules.right[rule]);
    }

    public int explained(int seen) throws IndexOutOfBoundsException {
        checkSeen(seen);
        return now.explaining(seen);
    }

    public int telling() {
        return guesses.fewestTelling(now);
    }

    public long guessed(int what) throws NoSuchElementException {
        checkWhat(what, 3);
        guesses.survey(now);
        return what == 0 ? guesses.many : what == 1 ? guesses.firstLeft : guesses.firstRight;
    }

    public int sorts(int what) throws NoSuchElementException {
        checkWhat(what, 4);
        int all = (1 << KINDS) - 1;
        switch (what) {
            case 0: return all & ~now.rules.kindsOfLefts();
            case 1: return all & ~now.rules.kindsOfRights();
            case 2: return now.rules.shrinking();
            default: return now.rules.growing();
        }
    }

    // ---- SEED, acts undone, THE IMAGE

    public int seed(int n) {
        int before = now.seed;
        now.seed = n;
        return before;
    }

    public boolean undo() {
        if (remembered == 0) {
            return false;
        }
        remembered--;
        nextMemory = (nextMemory + MOST_REMEMBERED - 1) % MOST_REMEMBERED;
        now.copyFrom(memory[nextMemory]);
        return true;
    }

    public void image() {
        kept.copyFrom(now);
        keptLaw.copyFrom(law);
        isKept = true;
    }

    public boolean back() {
        if (!isKept) {
            return false;
        }
        now.copyFrom(kept);
        law.copyFrom(keptLaw);
        forgetActs();
        return true;
    }

    public int count(int what) {
        switch (what) {
            case 0: return now.rules.size;
            case 1: return now.fieldCount;
            case 2: return now.seenCount;
            case 3: return now.texts;
            case 4: return law.lines;
            case 5: return now.way;
            case 6: return now.fog;
            case 7: return now.year;
            case 8: return now.stepsOfAll();
            case 9: return now.beastsOfAll();
            case 10: return remembered;
            default: return NONE;
        }
    }

    private void remember() {
        memory[nextMemory].copyFrom(now);
        nextMemory = (nextMemory + 1) % MOST_REMEMBERED;
        remembered = Math.min(remembered + 1, MOST_REMEMBERED);
    }

    private void forgetActs() {
        remembered = 0;
    }

    // ---- what a caller may not tell

    private void checkRule(int rule) {
        if (rule < 0 || rule >= now.rules.size) {
            throw new IndexOutOfBoundsException();
        }
    }

    private void checkField(int field) {
        if (field < 0 || field >= now.fieldCount) {
            throw new IndexOutOfBoundsException();
        }
    }

    private void checkSeen(int seen) {
        if (seen < 0 || seen >= now.seenCount) {
            throw new IndexOutOfBoundsException();
        }
    }

    private static void checkBeastOrNone(int beast) {
        if (beast < NONE || beast >= KINDS) {
            throw new IndexOutOfBoundsException();
        }
    }

    private static void checkCode(long code) {
        if (!isCode(code)) {
            throw new IllegalArgumentException();
        }
    }

    private static void checkNumber(int n, int least, int most) {
        if (n < least || n > most) {
            throw new IllegalArgumentException();
        }
    }

    private static void checkWhat(int what, int many) {
        if (what < 0 || what >= many) {
            throw new NoSuchElementException();
        }
    }

    // ---- CODES

    private static boolean isCode(long code) {
        return code > 0 && code <= figures(MOST_BEASTS) + figures(MOST_BEASTS) + 1 && code >>> 3 * sizeOf(code) == 1;
    }

    /** How many BEASTS a MEADOW has. */
    private static int sizeOf(long code) {
        int size = 0;
        while (size < MOST_BEASTS && code >>> 3 * size + 3 != 0) {
            size++;
        }
        return size;
    }

    /** All figures of so many BEASTS (0 to 20) set. */
    private static long figures(int beasts) {
        return (1L << 3 * beasts) - 1;
    }

    private static int beastAt(long code, int size, int place) {
        return (int) (code >>> 3 * (size - 1 - place) & 7);
    }

    /** The BEASTS of a MEADOW, as bits. */
    private static int kindsIn(long code) {
        int size = sizeOf(code);
        int kinds = 0;
        for (int i = 0; i < size; i++) {
            kinds |= 1 << beastAt(code, size, i);
        }
        return kinds;
    }

    private static long withBeasts(long code, int beast, int many) {
        long longer = code;
        for (int i = 0; i < many; i++) {
            longer = longer << 3 | beast;
        }
        return longer;
    }

    /** A CODE with the BEASTS of another one from a PLACE up to another one behind its own. */
    private static long withPart(long code, long other, int size, int from, int to) {
        int many = to - from;
        return code << 3 * many | other >>> 3 * (size - to) & figures(many);
    }

    private static boolean standsIn(long code, int size, int place, long left, int leftSize) {
        if (place < 0 || place >= size || leftSize > size - place) {
            return false;
        }
        int behind = size - place - leftSize;
        return ((code >>> 3 * behind ^ left) & figures(leftSize)) == 0;
    }

    /** The MEADOW behind the use of a RULE at a PLACE where its LEFT stands. */
    private static long replaced(long code, int size, int place, int leftSize, long right, int rightSize) {
        long ahead = code >>> 3 * (size - place);
        long changed = ahead << 3 * rightSize | right & figures(rightSize);
        return withPart(changed, code, size, place + leftSize, size);
    }

    /** Whether a MEADOW can become another one by one RULE at some PLACE. */
    private static boolean canBecome(long first, long then, long left, long right) {
        int size = sizeOf(first);
        int leftSize = sizeOf(left);
        int rightSize = sizeOf(right);
        if (size - leftSize + rightSize != sizeOf(then)) {
            return false;
        }
        for (int place = 0; place < size; place++) {
            if (standsIn(first, size, place, left, leftSize)
                    && replaced(first, size, place, leftSize, right, rightSize) == then) {
                return true;
            }
        }
        return false;
    }

    /** The RULES. */
    private static final class Rules {
        int size;
        final long[] left = new long[MOST_RULES];
        final long[] right = new long[MOST_RULES];
        final int[] leftSize = new int[MOST_RULES];
        final int[] rightSize = new int[MOST_RULES];

        void copyFrom(Rules other) {
            size = other.size;
            System.arraycopy(other.left, 0, left, 0, MOST_RULES);
            System.arraycopy(other.right, 0, right, 0, MOST_RULES);
            System.arraycopy(other.leftSize, 0, leftSize, 0, MOST_RULES);
            System.arraycopy(other.rightSize, 0, rightSize, 0, MOST_RULES);
        }

        void append(long newLeft, long newRight) {
            if (size < MOST_RULES) {
                left[size] = newLeft;
                right[size] = newRight;
                leftSize[size] = sizeOf(newLeft);
                rightSize[size] = sizeOf(newRight);
                size++;
            }
        }

        void remove(int rule) {
            for (int i = rule; i + 1 < size; i++) {
                left[i] = left[i + 1];
                right[i] = right[i + 1];
                leftSize[i] = leftSize[i + 1];
                rightSize[i] = rightSize[i + 1];
            }
            size--;
        }

        int kindsOfLefts() {
            int kinds = 0;
            for (int i = 0; i < size; i++) {
                kinds |= kindsIn(left[i]);
            }
            return kinds;
        }

        int kindsOfRights() {
            int kinds = 0;
            for (int i = 0; i < size; i++) {
                kinds |= kindsIn(right[i]);
            }
            return kinds;
        }

        int kinds() {
            return kindsOfLefts() | kindsOfRights();
        }

        int shrinking() {
            int set = 0;
            for (int i = 0; i < size; i++) {
                set |= rightSize[i] < leftSize[i] ? 1 << i : 0;
            }
            return set;
        }

        int growing() {
            int set = 0;
            for (int i = 0; i < size; i++) {
                set |= rightSize[i] > leftSize[i] ? 1 << i : 0;
            }
            return set;
        }
    }

    /** A FIELD. */
    private static final class Field {
        long code = BARE;
        int gone;
        final int[] makers = new int[MOST_BEASTS];
        final int[] makings = new int[MOST_BEASTS];

        void copyFrom(Field other) {
            code = other.code;
            gone = other.gone;
            takeMakers(other.makers, other.makings);
        }

        void takeMakers(int[] newMakers, int[] newMakings) {
            System.arraycopy(newMakers, 0, makers, 0, MOST_BEASTS);
            System.arraycopy(newMakings, 0, makings, 0, MOST_BEASTS);
        }

        void tell(long meadow) {
            code = meadow;
            gone = 0;
            Arrays.fill(makers, NONE);
            Arrays.fill(makings, NONE);
        }
    }

    /** All that is told of THE VALLEY, but THE LAW. */
    private static final class Told {
        final Rules rules = new Rules();
        final Field[] fields = new Field[MOST_FIELDS];
        int fieldCount;
        final long[] seenFirst = new long[MOST_SEEN];
        final long[] seenThen = new long[MOST_SEEN];
        int seenCount;
        final int[] weights = new int[KINDS];
        int texts;
        int way = WAY_LEFT;
        int fog;
        int year;
        int seed = 1;

        Told() {
            for (int i = 0; i < MOST_FIELDS; i++) {
                fields[i] = new Field();
            }
            Arrays.fill(weights, 1);
        }

        void copyFrom(Told other) {
            rules.copyFrom(other.rules);
            for (int i = 0; i < other.fieldCount; i++) {
                fields[i].copyFrom(other.fields[i]);
            }
            fieldCount = other.fieldCount;
            System.arraycopy(other.seenFirst, 0, seenFirst, 0, MOST_SEEN);
            System.arraycopy(other.seenThen, 0, seenThen, 0, MOST_SEEN);
            seenCount = other.seenCount;
            System.arraycopy(other.weights, 0, weights, 0, KINDS);
            texts = other.texts;
            way = other.way;
            fog = other.fog;
            year = other.year;
            seed = other.seed;
        }

        int draw() {
            seed = 1103515245 * seed + 12345;
            return seed >>> 16 & 0x7fff;
        }

        int weigh(long meadow) {
            int size = sizeOf(meadow);
            int sum = 0;
            for (int i = 0; i < size; i++) {
                sum += weights[beastAt(meadow, size, i)];
            }
            return sum;
        }

        int explaining(int seen) {
            int set = 0;
            for (int i = 0; i < rules.size; i++) {
                if (canBecome(seenFirst[seen], seenThen[seen], rules.left[i], rules.right[i])) {
                    set |= 1 << i;
                }
            }
            return set;
        }

        int stepsOfAll() {
            int sum = 0;
            for (int i = 0; i < fieldCount; i++) {
                sum += fields[i].gone;
            }
            return sum;
        }

        int beastsOfAll() {
            int sum = 0;
            for (int i = 0; i < fieldCount; i++) {
                sum += sizeOf(fields[i].code);
            }
            return sum;
        }

        // -- a text of THE VALLEY; each reader answers whether all was right, and stands behind what it read

        boolean read(Text text) {
            text.begin();
            if (text.kind == Text.END) {
                return true;
            }
            for (int lines = 0; lines < 14; lines++) {
                if (!readLine(text)) {
                    return false;
                }
                if (text.kind == Text.END) {
                    return true;
                }
                if (!text.skip(';')) {
                    return false;
                }
            }
            return text.isWrong();
        }

        private boolean readLine(Text text) {
            if (text.isWord("rule")) {
                return rules.size < MOST_RULES ? readRule(text) : text.isWrong();
            }
            if (text.isWord("field")) {
                return fieldCount < MOST_FIELDS ? readField(text) : text.isWrong();
            }
            if (text.isWord("seen")) {
                return seenCount < MOST_SEEN ? readSeen(text) : text.isWrong();
            }
            if (text.isWord("first")) {
                return readFirst(text);
            }
            if (text.isWord("fog")) {
                return readFog(text);
            }
            if (text.isWord("weight")) {
                return readWeight(text);
            }
            return text.isWord("drop") ? readDrop(text) : text.isWrong();
        }

        private boolean readRule(Text text) {
            text.advance();
            long left = text.readBeasts(1, MOST_LEFT);
            if (left == NONE || !text.skipWord("to")) {
                return false;
            }
            long right = text.readBeasts(0, MOST_RIGHT);
            if (right == NONE) {
                return false;
            }
            rules.append(left, right);
            return true;
        }

        private boolean readField(Text text) {
            text.advance();
            long meadow = text.readBeasts(0, MOST_BEASTS);
            if (meadow == NONE) {
                return false;
            }
            fields[fieldCount].tell(meadow);
            fieldCount++;
            return true;
        }

        private boolean readSeen(Text text) {
            text.advance();
            long first = text.readBeasts(0, MOST_BEASTS);
            if (first == NONE || !text.skipWord("to")) {
                return false;
            }
            long then = text.readBeasts(0, MOST_BEASTS);
            if (then == NONE) {
                return false;
            }
            seenFirst[seenCount] = first;
            seenThen[seenCount] = then;
            seenCount++;
            return true;
        }

        private boolean readFirst(Text text) {
            text.advance();
            int told = text.isWord("left") ? WAY_LEFT
                    : text.isWord("right") ? WAY_RIGHT
                    : text.isWord("rule") ? WAY_RULE
                    : text.isWord("all") ? WAY_ALL : NONE;
            if (told == NONE) {
                return text.isWrong();
            }
            way = told;
            text.advance();
            return true;
        }

        private boolean readFog(Text text) {
            text.advance();
            int told = text.readNumber(MOST_FOG);
            if (told == NONE) {
                return false;
            }
            fog = told;
            return true;
        }

        private boolean readWeight(Text text) {
            text.advance();
            long one = text.readBeasts(1, 1);
            if (one == NONE) {
                return false;
            }
            int told = text.readNumber(MOST_WEIGHT);
            if (told == NONE) {
                return false;
            }
            weights[beastAt(one, 1, 0)] = told;
            return true;
        }

        private boolean readDrop(Text text) {
            text.advance();
            int rule = text.readNumber(rules.size - 1);
            if (rule == NONE) {
                return false;
            }
            rules.remove(rule);
            return true;
        }
    }

    /** The TAPE, and where one stands when it is read as a text: always ahead of one thing of it. */
    private static final class Text {
        static final int END = -1;
        static final int WORD = -2;
        static final int NUMBER = -3;
        private static final int MOST_DIGITS = 3;

        final int[] bytes = new int[MOST_BYTES];
        int size;
        /** Of the thing ahead: END, WORD, NUMBER, or the byte that it is. */
        int kind = END;
        int start;
        int stop;
        /** Of the number ahead; NONE, if it has too many digits. */
        int value;
        /** The first wrong byte of the text that was read last; NONE without one. */
        int fault = NONE;

        void append(int four) {
            for (int shift = 24; shift >= 0; shift -= 8) {
                if (size < MOST_BYTES) {
                    bytes[size] = four >>> shift & 255;
                    size++;
                }
            }
        }

        void begin() {
            stop = 0;
            fault = NONE;
            advance();
        }

        void advance() {
            start = stop;
            while (start < size && bytes[start] == ' ') {
                start++;
            }
            stop = start;
            kind = start < size ? bytes[start] : END;
            if (kind >= 'a' && kind <= 'z') {
                kind = WORD;
                while (stop < size && bytes[stop] >= 'a' && bytes[stop] <= 'z') {
                    stop++;
                }
            } else if (kind >= '0' && kind <= '9') {
                kind = NUMBER;
                value = 0;
                while (stop < size && bytes[stop] >= '0' && bytes[stop] <= '9') {
                    value = 10 * value + bytes[stop] - '0';
                    stop++;
                }
                value = stop - start > MOST_DIGITS ? NONE : value;
            } else if (kind != END) {
                stop++;
            }
        }

        /** Tells that the thing ahead cannot stand there; always false. */
        boolean isWrong() {
            fault = start;
            return false;
        }

        boolean isWord(String word) {
            if (kind != WORD || stop - start != word.length()) {
                return false;
            }
            for (int i = 0; i < word.length(); i++) {
                if (bytes[start + i] != word.charAt(i)) {
                    return false;
                }
            }
            return true;
        }

        boolean skipWord(String word) {
            if (!isWord(word)) {
                return isWrong();
            }
            advance();
            return true;
        }

        boolean skip(int sign) {
            if (kind != sign) {
                return isWrong();
            }
            advance();
            return true;
        }

        /** A number from 0 to a greatest one; NONE, if none such is ahead. */
        int readNumber(int most) {
            if (kind != NUMBER || value > most) {
                isWrong();
                return NONE;
            }
            int told = value;
            if (told == NONE) {
                isWrong();
            } else {
                advance();
            }
            return told;
        }

        /** The CODE of BEASTS; NONE, if none such are ahead. */
        long readBeasts(int least, int most) {
            long code = least == 0 && kind == '.' ? BARE : kind == WORD && stop - start <= most ? beastsAhead() : NONE;
            if (code == NONE) {
                isWrong();
            } else {
                advance();
            }
            return code;
        }

        private long beastsAhead() {
            long code = BARE;
            for (int i = start; i < stop; i++) {
                int beast = bytes[i] - 'a';
                if (beast >= KINDS) {
                    return NONE;
                }
                code = withBeasts(code, beast, 1);
            }
            return code;
        }
    }

    /** THE LAW, kept as signs in the order in which they are reckoned: first what a sign joins, then the sign. */
    private static final class Law {
        private static final int MOST_LINES = 12;
        private static final int MOST_DEEP = 6;
        /** At most two conditions wait for each that stands deeper, and two sums and a part at the deepest. */
        private static final int MOST_WAITING = 2 * (MOST_DEEP + 1) + 3;

        // A number is its own sign; NONE is none.
        private static final int RULE = -2;
        private static final int PLACE = -3;
        private static final int LONG = -4;
        private static final int BEHIND = -5;
        private static final int YEAR = -6;
        private static final int AT_END = -7;
        private static final int NOT = -8;
        private static final int BAR = -9;
        private static final int PLUS = -10;
        private static final int BELOW = -11;
        private static final int ABOVE = -12;
        private static final int AND = -13;
        private static final int OR = -14;

        /** NONE, if there is no LAW. */
        int lines = NONE;
        private int size;
        private final int[] signs = new int[MOST_BYTES];
        private final int[] waiting = new int[MOST_WAITING];

        void copyFrom(Law other) {
            lines = other.lines;
            size = other.size;
            System.arraycopy(other.signs, 0, signs, 0, size);
        }

        // -- reading

        boolean read(Text text) {
            lines = 0;
            size = 0;
            text.begin();
            if (text.kind == Text.END) {
                return true;
            }
            while (lines < MOST_LINES) {
                if (!text.skipWord("bar")) {
                    return false;
                }
                if (!text.isWord("if")) {
                    write(1);
                } else {
                    text.advance();
                    if (!readAny(text, 0)) {
                        return false;
                    }
                }
                write(BAR);
                lines++;
                if (text.kind == Text.END) {
                    return true;
                }
                if (!text.skip(';')) {
                    return false;
                }
            }
            return text.isWrong();
        }

        private boolean readAny(Text text, int deep) {
            if (!readEach(text, deep)) {
                return false;
            }
            for (int more = 0; more < MOST_BYTES && text.isWord("or"); more++) {
                text.advance();
                if (!readEach(text, deep)) {
                    return false;
                }
                write(OR);
            }
            return true;
        }

        private boolean readEach(Text text, int deep) {
            if (!readAtom(text, deep)) {
                return false;
            }
            for (int more = 0; more < MOST_BYTES && text.isWord("and"); more++) {
                text.advance();
                if (!readAtom(text, deep)) {
                    return false;
                }
                write(AND);
            }
            return true;
        }

        private boolean readAtom(Text text, int deep) {
            boolean isNot = text.isWord("not");
            if (isNot || text.kind == '(') {
                if (deep >= MOST_DEEP) {
                    return text.isWrong();
                }
                text.advance();
                if (!isNot) {
                    return readAny(text, deep + 1) && text.skip(')');
                }
                if (!readAtom(text, deep + 1)) {
                    return false;
                }
                write(NOT);
                return true;
            }
            if (text.isWord("end")) {
                text.advance();
                write(AT_END);
                return true;
            }
            if (!readSum(text)) {
                return false;
            }
            int sign = text.kind == '<' ? BELOW : ABOVE;
            if (!text.skip(sign == BELOW ? '<' : '>') || !readSum(text)) {
                return false;
            }
            write(sign);
            return true;
        }

        private boolean readSum(Text text) {
            if (!readPart(text)) {
                return false;
            }
            for (int more = 0; more < MOST_BYTES && text.kind == '+'; more++) {
                text.advance();
                if (!readPart(text)) {
                    return false;
                }
                write(PLUS);
            }
            return true;
        }

        private boolean readPart(Text text) {
            int sign = text.kind == Text.NUMBER ? text.value
                    : text.isWord("rule") ? RULE
                    : text.isWord("place") ? PLACE
                    : text.isWord("long") ? LONG
                    : text.isWord("behind") ? BEHIND
                    : text.isWord("year") ? YEAR : NONE;
            if (sign == NONE) {
                return text.isWrong();
            }
            text.advance();
            write(sign);
            return true;
        }

        private void write(int sign) {
            if (size < signs.length) {
                signs[size] = sign;
                size++;
            }
        }

        // -- reckoning

        boolean isEmpty() {
            return size == 0;
        }

        boolean bars(int rule, int place, int meadowSize, int behind, int year) {
            int top = 0;
            for (int i = 0; i < size; i++) {
                int sign = signs[i];
                if (sign > NOT) {
                    if (top < waiting.length) {
                        waiting[top] = valueOf(sign, rule, place, meadowSize, behind, year);
                        top++;
                    }
                } else if (sign == NOT && top > 0) {
                    waiting[top - 1] = 1 - waiting[top - 1];
                } else if (sign == BAR && top > 0) {
                    top--;
                    if (waiting[top] != 0) {
                        return true;
                    }
                } else if (top > 1) {
                    top--;
                    waiting[top - 1] = joined(sign, waiting[top - 1], waiting[top]);
                }
            }
            return false;
        }

        private static int valueOf(int sign, int rule, int place, int meadowSize, int behind, int year) {
            switch (sign) {
                case RULE: return rule;
                case PLACE: return place;
                case LONG: return meadowSize;
                case BEHIND: return behind;
                case YEAR: return year;
                case AT_END: return place == 0 || behind == 0 ? 1 : 0;
                default: return sign;
            }
        }

        private static int joined(int sign, int one, int other) {
            switch (sign) {
                case PLUS: return one + other;
                case BELOW: return one < other ? 1 : 0;
                case ABOVE: return one > other ? 1 : 0;
                case AND: return one & other;
                default: return one | other;
            }
        }
    }

    /** Goes from MEADOW to MEADOW by the RULES. */
    private static final class Walk {
        final Rules rules;
        private final Law law;
        private int way;
        private int year;
        private boolean isLawful;
        /** RULES that are left out, as bits. */
        int without;
        /** In how many STEPS the latest MEADOW that settled did so. */
        int gone;
        /** The turns that were listed last. */
        final int[] turns = new int[MOST_RULES * MOST_BEASTS];

        // The uses of one STEP, from the left on.
        private final int[] usePlaces = new int[MOST_BEASTS];
        private final int[] useRules = new int[MOST_BEASTS];

        // What THE LAW says, by RULE and the MEADOW's number of BEASTS, a bit for each PLACE: THE LAW asks for nothing
        // else while the YEAR and the RULES stay, and is dear to reckon.
        private final int[] known = new int[MOST_RULES * (MOST_BEASTS + 1)];
        private final int[] barred = new int[MOST_RULES * (MOST_BEASTS + 1)];

        private final int[] newMakers = new int[MOST_BEASTS];
        private final int[] newMakings = new int[MOST_BEASTS];

        Walk(Rules rules, Law law) {
            this.rules = rules;
            this.law = law;
        }

        void begin(Told told) {
            way = told.way;
            year = told.year;
            without = 0;
            isLawful = !law.isEmpty();
            if (isLawful) {
                Arrays.fill(known, 0);
            }
        }

        void beginLawless() {
            way = WAY_LEFT;
            without = 0;
            isLawful = false;
        }

        boolean mayUse(int rule, int place, long code, int size) {
            int leftSize = rules.leftSize[rule];
            if (!standsIn(code, size, place, rules.left[rule], leftSize) || (without >> rule & 1) != 0
                    || size - leftSize + rules.rightSize[rule] > MOST_BEASTS) {
                return false;
            }
            if (!isLawful) {
                return true;
            }
            int slot = rule * (MOST_BEASTS + 1) + size;
            int bit = 1 << place;
            if ((known[slot] & bit) == 0) {
                known[slot] |= bit;
                boolean isBarred = law.bars(rule, place, size, size - place - leftSize, year);
                barred[slot] = isBarred ? barred[slot] | bit : barred[slot] & ~bit;
            }
            return (barred[slot] & bit) == 0;
        }

        // -- STEPS by WAY

        /** The MEADOW behind one STEP; NONE, if none can be gone. */
        long next(long code) {
            int size = sizeOf(code);
            int uses = gather(code, size);
            return uses == 0 ? NONE : after(code, size, uses);
        }

        boolean isSettled(long code) {
            return gather(code, sizeOf(code)) == 0;
        }

        /** What a MEADOW settles to within n STEPS; NONE, if it does not. */
        long settle(long code, int n) {
            long here = code;
            long earlier = code;
            int nextLook = 1;
            for (int step = 0; step <= n; step++) {
                int size = sizeOf(here);
                int uses = gather(here, size);
                if (uses == 0) {
                    gone = step;
                    return here;
                }
                long then = after(here, size, uses);
                // A MEADOW that comes again goes round for ever, and need not be followed on.
                if (then == earlier) {
                    return NONE;
                }
                here = then;
                if (step + 1 == nextLook) {
                    earlier = here;
                    nextLook *= 2;
                }
            }
            return NONE;
        }

        boolean goOn(Field field) {
            int uses = gather(field.code, sizeOf(field.code));
            if (uses == 0) {
                return false;
            }
            change(field, uses);
            return true;
        }

        /** Notes the uses of the next STEP: how many. */
        private int gather(long code, int size) {
            int many = rules.size;
            int pairs = size * many;
            int mostUses = way == WAY_ALL ? MOST_BEASTS : 1;
            int uses = 0;
            int newSize = size;
            int behind = 0;
            for (int i = 0; i < pairs && uses < mostUses; i++) {
                int place = way == WAY_RULE ? i % size : way == WAY_RIGHT ? size - 1 - i / many : i / many;
                int rule = way == WAY_RULE ? i / size : i % many;
                if (place >= behind && mayUse(rule, place, code, size)) {
                    usePlaces[uses] = place;
                    useRules[uses] = rule;
                    uses++;
                    newSize += rules.rightSize[rule] - rules.leftSize[rule];
                    behind = place + rules.leftSize[rule];
                }
            }
            return newSize > MOST_BEASTS ? 0 : uses;
        }

        private long after(long code, int size, int uses) {
            long then = BARE;
            int place = 0;
            for (int i = 0; i < uses; i++) {
                int rule = useRules[i];
                then = withPart(then, code, size, place, usePlaces[i]);
                then = withPart(then, rules.right[rule], rules.rightSize[rule], 0, rules.rightSize[rule]);
                place = usePlaces[i] + rules.leftSize[rule];
            }
            return withPart(then, code, size, place, size);
        }

        // -- changes of a FIELD

        void turn(Field field, int turn) {
            usePlaces[0] = turn / TURN;
            useRules[0] = turn % TURN;
            change(field, 1);
        }

        private void change(Field field, int uses) {
            int size = sizeOf(field.code);
            int step = field.gone + 1;
            int place = 0;
            int made = 0;
            for (int i = 0; i < uses; i++) {
                int rule = useRules[i];
                made = keepMakers(field, place, usePlaces[i], made);
                for (int k = 0; k < rules.rightSize[rule]; k++) {
                    made = noteMaker(rule, step, made);
                }
                place = usePlaces[i] + rules.leftSize[rule];
            }
            keepMakers(field, place, size, made);
            field.takeMakers(newMakers, newMakings);
            field.code = after(field.code, size, uses);
            field.gone = step;
        }

        private int keepMakers(Field field, int from, int to, int made) {
            int behind = made;
            for (int place = from; place < to; place++) {
                behind = noteMaker(field.makers[place], field.makings[place], behind);
            }
            return behind;
        }

        private int noteMaker(int maker, int making, int place) {
            if (place < MOST_BEASTS) {
                newMakers[place] = maker;
                newMakings[place] = making;
            }
            return place + 1;
        }

        // -- all that fit

        /** Lists all turns that fit, by PLACE, then RULE: how many. */
        int listTurns(long code) {
            int size = sizeOf(code);
            int many = 0;
            for (int place = 0; place < size; place++) {
                for (int rule = 0; rule < rules.size; rule++) {
                    if (many < turns.length && mayUse(rule, place, code, size)) {
                        turns[many] = TURN * place + rule;
                        many++;
                    }
                }
            }
            return many;
        }

        long afterTurn(long code, int turn) {
            int rule = turn % TURN;
            int place = turn / TURN;
            return replaced(code, sizeOf(code), place, rules.leftSize[rule], rules.right[rule], rules.rightSize[rule]);
        }
    }

    /** The unlike MEADOWS that a search has come to, in the order in which it did. */
    private static final class Herd {
        private static final int SLOT_BITS = 12;
        private static final int SLOTS = 1 << SLOT_BITS;
        private static final long SCATTER = 0x9E3779B97F4A7C15L;

        int size;
        final long[] codes = new long[MOST_MEADOWS];
        /** In how many STEPS each was come to. */
        final int[] far = new int[MOST_MEADOWS];
        /** Where in codes a MEADOW is, and 1; 0: nothing here. */
        private final int[] slots = new int[SLOTS];
        private int lastStep;
        /** The first of those that were come to in the last STEP. */
        private int lastBegin;

        void begin(long code) {
            Arrays.fill(slots, 0);
            size = 0;
            lastStep = 0;
            lastBegin = 0;
            take(code, 0);
        }

        int indexOf(long code) {
            return slots[slotOf(code)] - 1;
        }

        /** The slot of a MEADOW, or the free one that is its own. */
        private int slotOf(long code) {
            int slot = (int) (code * SCATTER >>> 64 - SLOT_BITS);
            for (int tries = 0; tries < SLOTS; tries++) {
                int at = slots[slot] - 1;
                if (at < 0 || codes[at] == code) {
                    return slot;
                }
                slot = (slot + 1) % SLOTS;
            }
            return slot;
        }

        /** False, if it is one too many. */
        boolean take(long code, int step) {
            int slot = slotOf(code);
            if (slots[slot] != 0) {
                return true;
            }
            if (size >= MOST_MEADOWS) {
                return false;
            }
            codes[size] = code;
            far[size] = step;
            size++;
            slots[slot] = size;
            return true;
        }

        /** False, if too many are come to within n STEPS. */
        boolean spread(Walk walk, long code, int n) {
            begin(code);
            for (int step = 0; step < n && goesOn(); step++) {
                if (!spreadOnce(walk)) {
                    return false;
                }
            }
            return true;
        }

        /** Whether the last STEP came to a MEADOW. */
        boolean goesOn() {
            return lastBegin < size;
        }

        /** One STEP from all of the last STEP; false, if too many are come to. */
        boolean spreadOnce(Walk walk) {
            int end = size;
            lastStep++;
            for (int i = lastBegin; i < end; i++) {
                int many = walk.listTurns(codes[i]);
                for (int k = 0; k < many; k++) {
                    if (!take(walk.afterTurn(codes[i], walk.turns[k]), lastStep)) {
                        return false;
                    }
                }
            }
            lastBegin = end;
            return true;
        }

        int mostBeasts() {
            int most = 0;
            for (int i = 0; i < size; i++) {
                most = Math.max(most, sizeOf(codes[i]));
            }
            return most;
        }

        int countSettled(Walk walk) {
            int many = 0;
            for (int i = 0; i < size; i++) {
                if (walk.isSettled(codes[i])) {
                    many++;
                }
            }
            return many;
        }

        long leastSettled(Walk walk) {
            long least = NONE;
            for (int i = 0; i < size; i++) {
                if ((least == NONE || codes[i] < least) && walk.isSettled(codes[i])) {
                    least = codes[i];
                }
            }
            return least;
        }
    }

    /** The game of two drovers. */
    private static final class Game {
        /** For who goes on from the MEADOW: 1 wins, -1 loses, 0 nobody. */
        int worth;
        /** The first turn by which one does best; NONE, if none fits. */
        int turn;
        // What the MEADOWS of the herd are worth with so many turns left, and with one more.
        private final int[] less = new int[MOST_MEADOWS];
        private final int[] more = new int[MOST_MEADOWS];

        /** The herd is what is come to from its first MEADOW within n STEPS. */
        void play(Walk walk, Herd herd, int n) {
            Arrays.fill(less, 0);
            for (int left = 1; left < n; left++) {
                // Who stands farther away than this is not come to with so many turns left.
                for (int i = 0; i < herd.size && herd.far[i] <= n - left; i++) {
                    weigh(walk, herd, herd.codes[i]);
                    more[i] = worth;
                }
                System.arraycopy(more, 0, less, 0, herd.size);
            }
            weigh(walk, herd, herd.codes[0]);
        }

        private void weigh(Walk walk, Herd herd, long code) {
            int many = walk.listTurns(code);
            worth = -1;
            turn = many == 0 ? NONE : walk.turns[0];
            for (int i = 0; i < many && worth < 1; i++) {
                int then = herd.indexOf(walk.afterTurn(code, walk.turns[i]));
                if (then >= 0 && -less[then] > worth) {
                    worth = -less[then];
                    turn = walk.turns[i];
                }
            }
        }
    }

    /** Looks for weights of BEASTS. */
    private static final class Scales {
        final int[] weights = new int[KINDS];
        private final int[] listed = new int[MOST_LISTED];
        private int listedCount;
        // Of each RULE, and behind them of the two MEADOWS: how many of each BEAST LEFT has more than RIGHT, and behind
        // which one of those listed all that it asks for are weighed.
        private final int[] rows = new int[(MOST_RULES + 1) * KINDS];
        private final int[] lastAsked = new int[MOST_RULES + 1];
        private int rowCount;
        private int ruleCount;
        private int least;
        private int most;
        /** 0: weights that fall. */
        private int modulus;

        /** Lists the BEASTS that are to be weighed; false, if they are too many. */
        boolean list(int kinds) {
            listedCount = 0;
            if (Integer.bitCount(kinds) > MOST_LISTED) {
                return false;
            }
            for (int beast = 0; beast < KINDS; beast++) {
                if ((kinds >> beast & 1) != 0 && listedCount < MOST_LISTED) {
                    listed[listedCount] = beast;
                    listedCount++;
                }
            }
            return true;
        }

        void loadRules(Rules rules) {
            rowCount = 0;
            Arrays.fill(rows, 0);
            for (int i = 0; i < rules.size; i++) {
                loadPair(rules.left[i], rules.right[i]);
            }
            ruleCount = rowCount;
        }

        void loadPair(long one, long other) {
            if (rowCount > MOST_RULES) {
                return;
            }
            countBeasts(one, 1);
            countBeasts(other, -1);
            lastAsked[rowCount] = 0;
            for (int i = 0; i < listedCount; i++) {
                if (rows[rowCount * KINDS + listed[i]] != 0) {
                    lastAsked[rowCount] = i;
                }
            }
            rowCount++;
        }

        private void countBeasts(long code, int each) {
            int size = sizeOf(code);
            for (int i = 0; i < size; i++) {
                rows[rowCount * KINDS + beastAt(code, size, i)] += each;
            }
        }

        boolean findModulo(int newModulus) {
            modulus = newModulus;
            least = 0;
            most = newModulus - 1;
            Arrays.fill(weights, 0);
            // Without a BEAST nothing can weigh otherwise than another.
            return listedCount > 0 && find(0);
        }

        boolean findFalling(int greatest) {
            modulus = 0;
            least = 1;
            most = greatest;
            Arrays.fill(weights, 0);
            return find(0);
        }

        /** Weighs the BEASTS listed from one on; at most six deep. */
        private boolean find(int from) {
            if (from >= listedCount) {
                return true;
            }
            int beast = listed[from];
            for (int weight = least; weight <= most; weight++) {
                weights[beast] = weight;
                if (holdsBehind(from) && find(from + 1)) {
                    return true;
                }
            }
            return false;
        }

        private boolean holdsBehind(int last) {
            for (int row = 0; row < rowCount; row++) {
                if (lastAsked[row] == last && !holds(row)) {
                    return false;
                }
            }
            return true;
        }

        private boolean holds(int row) {
            int sum = 0;
            for (int beast = 0; beast < KINDS; beast++) {
                sum += rows[row * KINDS + beast] * weights[beast];
            }
            if (modulus == 0) {
                return sum > 0;
            }
            boolean isAlike = sum % modulus == 0;
            return row < ruleCount ? isAlike : !isAlike;
        }
    }

    /** The OVERLAPS of the RULES. */
    private static final class Crossings {
        int many;
        int unlike;
        long firstUnlike;
        /** What the first UNLIKE one of which both settle settles to; NONE without one. */
        long greater;
        long lesser;
        private boolean isWeighed;

        /** Looks at all OVERLAPS; those that are UNLIKE are counted only if they are to be weighed. */
        void survey(Walk walk, boolean weighed) {
            many = 0;
            unlike = 0;
            firstUnlike = NONE;
            greater = NONE;
            lesser = NONE;
            isWeighed = weighed;
            Rules rules = walk.rules;
            int pairs = rules.size * rules.size;
            for (int i = 0; i < pairs; i++) {
                int p = i / rules.size;
                int q = i % rules.size;
                for (int k = 1; k < rules.leftSize[p] && k < rules.leftSize[q]; k++) {
                    if (endBegins(rules, p, q, k)) {
                        long word = withPart(rules.left[p], rules.left[q], rules.leftSize[q], k, rules.leftSize[q]);
                        meet(walk, word, p, q, rules.leftSize[p] - k);
                    }
                }
            }
            for (int i = 0; i < pairs; i++) {
                int p = i / rules.size;
                int q = i % rules.size;
                for (int place = 0; p != q && place < rules.leftSize[p]; place++) {
                    if (standsIn(rules.left[p], rules.leftSize[p], place, rules.left[q], rules.leftSize[q])) {
                        meet(walk, rules.left[p], p, q, place);
                    }
                }
            }
        }

        /** Whether the last k BEASTS of LEFT of P are the first k of LEFT of Q. */
        private static boolean endBegins(Rules rules, int p, int q, int k) {
            long begin = rules.left[q] >>> 3 * (rules.leftSize[q] - k);
            return ((rules.left[p] ^ begin) & figures(k)) == 0;
        }

        private void meet(Walk walk, long word, int p, int q, int place) {
            many++;
            if (!isWeighed) {
                return;
            }
            long one = walk.settle(walk.afterTurn(word, p), 100);
            long other = walk.settle(walk.afterTurn(word, TURN * place + q), 100);
            if (one == other && one != NONE) {
                return;
            }
            unlike++;
            if (firstUnlike == NONE) {
                firstUnlike = word;
            }
            if (greater == NONE && one != NONE && other != NONE) {
                greater = Math.max(one, other);
                lesser = Math.min(one, other);
            }
        }
    }

    /** Looks for RULES by which each SEEN can be: some of those told, or any one alone. */
    private static final class Guesses {
        int many;
        long firstLeft;
        long firstRight;
        private final int[] explainers = new int[MOST_SEEN];

        int fewestTelling(Told told) {
            for (int i = 0; i < told.seenCount; i++) {
                explainers[i] = told.explaining(i);
            }
            int fewest = NONE;
            for (int set = 0; set < 1 << told.rules.size; set++) {
                boolean fewer = fewest == NONE || Integer.bitCount(set) < Integer.bitCount(fewest);
                if (fewer && explainsAll(set, told.seenCount)) {
                    fewest = set;
                }
            }
            return fewest;
        }

        private boolean explainsAll(int set, int seenCount) {
            for (int i = 0; i < seenCount; i++) {
                if ((explainers[i] & set) == 0) {
                    return false;
                }
            }
            return true;
        }

        void survey(Told told) {
            many = 0;
            firstLeft = NONE;
            firstRight = NONE;
            if (told.seenCount == 0) {
                return;
            }
            int grown = sizeOf(told.seenThen[0]) - sizeOf(told.seenFirst[0]);
            // RIGHT's number of BEASTS follows from LEFT's, so that this order is the one that is asked for.
            for (int leftSize = 1; leftSize <= 3; leftSize++) {
                int rightSize = leftSize + grown;
                if (rightSize >= 0 && rightSize <= 3) {
                    surveySizes(told, leftSize, rightSize);
                }
            }
        }

        private void surveySizes(Told told, int leftSize, int rightSize) {
            long first = told.seenFirst[0];
            long then = told.seenThen[0];
            int size = sizeOf(first);
            boolean isFirstSize = firstLeft == NONE;
            for (int place = 0; place + leftSize <= size; place++) {
                long left = withPart(BARE, first, size, place, place + leftSize);
                long right = withPart(BARE, then, sizeOf(then), place, place + rightSize);
                if (left != right && replaced(first, size, place, leftSize, right, rightSize) == then
                        && !cameEarlier(first, then, left, right, place) && tellsAll(told, left, right)) {
                    many++;
                    boolean isLess = left < firstLeft || left == firstLeft && right < firstRight;
                    if (isFirstSize && (firstLeft == NONE || isLess)) {
                        firstLeft = left;
                        firstRight = right;
                    }
                }
            }
        }

        /** Whether the same RULE makes the same of a MEADOW at a lesser PLACE, too. */
        private static boolean cameEarlier(long first, long then, long left, long right, int place) {
            int size = sizeOf(first);
            int leftSize = sizeOf(left);
            int rightSize = sizeOf(right);
            for (int i = 0; i < place; i++) {
                if (standsIn(first, size, i, left, leftSize)
                        && replaced(first, size, i, leftSize, right, rightSize) == then) {
                    return true;
                }
            }
            return false;
        }

        private static boolean tellsAll(Told told, long left, long right) {
            for (int i = 0; i < told.seenCount; i++) {
                if (!canBecome(told.seenFirst[i], told.seenThen[i], left, right)) {
                    return false;
                }
            }
            return true;
        }
    }
}
