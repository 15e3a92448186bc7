import java.util.NoSuchElementException;

/** A court of logics on small worlds; ../shared/DOC.md tells what each call of the face promises. */
public final class Pebblecourt {
    private static final int MOST_WORLDS = 12;
    private static final int MOST_THINGS = 6;
    private static final int MOST_FORMULAS = 20;
    private static final int MOST_SIGNS = 40;
    private static final int NAMES = 6;
    private static final int MOST_PAIRS = 6;

    private final World[] court = new World[MOST_WORLDS];
    private int courtSize;
    private final Formula[] book = new Formula[MOST_FORMULAS];
    private int bookSize;
    private final char[] buffer = new char[MOST_SIGNS];
    private int typed;
    private final int[] lets = new int[NAMES];
    private final int[] asked = new int[NAMES];
    private World positionFirst;
    private World positionSecond;
    private final int[] ones = new int[MOST_PAIRS];
    private final int[] others = new int[MOST_PAIRS];
    private int pairCount;
    private final World spare = new World();
    private final Reader reader = new Reader();
    private final Game game = new Game();
    private final Standing standing = new Standing();
    private final Teller teller = new Teller(game);
    private final Tints tints = new Tints();
    private final Mapper mapper = new Mapper();

    public Pebblecourt() {
    }

    // ---- worlds

    public int world(int size) throws IllegalArgumentException, IllegalStateException {
        needRange(size, 1, MOST_THINGS);
        needCourtRoom();
        World fresh = new World();
        fresh.begin(size);
        return added(fresh);
    }

    public boolean stepped(int world, int from, int to) throws IndexOutOfBoundsException {
        World found = worldAt(world);
        needThing(found, from);
        needThing(found, to);
        found.steps[from] ^= 1 << to;
        return World.has(found.steps[from], to);
    }

    public boolean threaded(int world, int from, int to) throws IndexOutOfBoundsException {
        World found = worldAt(world);
        needThing(found, from);
        needThing(found, to);
        found.threads[from] ^= 1 << to;
        return World.has(found.threads[from], to);
    }

    public boolean marked(int world, int thing, char mark)
            throws IndexOutOfBoundsException, IllegalArgumentException {
        World found = worldAt(world);
        needThing(found, thing);
        if (mark == 'P') {
            found.markedP ^= 1 << thing;
            return World.has(found.markedP, thing);
        }
        if (mark == 'Q') {
            found.markedQ ^= 1 << thing;
            return World.has(found.markedQ, thing);
        }
        throw new IllegalArgumentException("no such mark");
    }

    public int join(int first, int second, boolean isProduct)
            throws IndexOutOfBoundsException, UnsupportedOperationException, IllegalStateException {
        World one = worldAt(first);
        World other = worldAt(second);
        int things = isProduct ? one.things * other.things : one.things + other.things;
        if (things > MOST_THINGS) {
            throw new UnsupportedOperationException("more than 6 things");
        }
        needCourtRoom();
        World fresh = new World();
        if (isProduct) {
            fresh.becomeProduct(one, other);
        } else {
            fresh.becomeSum(one, other);
        }
        return added(fresh);
    }

    public int turned(int world) throws IndexOutOfBoundsException, IllegalStateException {
        World found = worldAt(world);
        needCourtRoom();
        World fresh = new World();
        fresh.becomeTurned(found);
        return added(fresh);
    }

    public int part(int world, int things)
            throws IndexOutOfBoundsException, IllegalArgumentException, IllegalStateException {
        World found = worldAt(world);
        needRange(things, 1, found.allThings());
        needCourtRoom();
        World fresh = new World();
        fresh.becomePart(found, things);
        return added(fresh);
    }

    public int made(int world, int formula)
            throws IndexOutOfBoundsException, UnsupportedOperationException, IllegalStateException {
        World found = worldAt(world);
        Formula asking = formulaAt(formula);
        needFreeWithin(asking, 3);
        needCourtRoom();
        reader.read(found, asking);
        World fresh = new World();
        fresh.begin(found.things);
        fresh.markedP = found.markedP;
        fresh.markedQ = found.markedQ;
        for (int a = 0; a < found.things; a++) {
            for (int b = 0; b < found.things; b++) {
                asked[0] = a;
                asked[1] = b;
                fresh.steps[a] |= reader.isTold(asked) ? 1 << b : 0;
            }
        }
        return added(fresh);
    }

    public int size(int world) throws IndexOutOfBoundsException {
        return worldAt(world).things;
    }

    public int many(int world, char what) throws IndexOutOfBoundsException, IllegalArgumentException {
        World found = worldAt(world);
        if (what == 'E') {
            return found.countIn(found.steps);
        }
        if (what == 'F') {
            return found.countIn(found.threads);
        }
        if (what == 'P') {
            return Integer.bitCount(found.markedP);
        }
        if (what == 'Q') {
            return Integer.bitCount(found.markedQ);
        }
        throw new IllegalArgumentException("no such letter");
    }

    // ---- formulas

    public int type(char sign) throws IllegalArgumentException, IllegalStateException {
        if (Signs.kindOf(sign) == Signs.NONE) {
            throw new IllegalArgumentException("no such sign");
        }
        if (typed >= MOST_SIGNS) {
            throw new IllegalStateException("40 signs are there");
        }
        buffer[typed] = sign;
        typed++;
        return typed;
    }

    public int erase() {
        int before = typed;
        typed = 0;
        return before;
    }

    public int formula() throws UnsupportedOperationException, IllegalStateException {
        if (Signs.faultIn(buffer, typed) >= 0) {
            throw new UnsupportedOperationException("no formula");
        }
        if (bookSize >= MOST_FORMULAS) {
            throw new IllegalStateException("20 formulas are there");
        }
        book[bookSize] = new Formula(buffer, typed);
        bookSize++;
        typed = 0;
        return bookSize - 1;
    }

    public int fault() {
        return Signs.faultIn(buffer, typed);
    }

    public int free(int formula) throws IndexOutOfBoundsException {
        return formulaAt(formula).freeNames();
    }

    public int rank(int formula) throws IndexOutOfBoundsException {
        return formulaAt(formula).deepest();
    }

    public int width(int formula) throws IndexOutOfBoundsException {
        return Integer.bitCount(formulaAt(formula).names);
    }

    public int let(int name, int thing) throws IllegalArgumentException {
        needRange(name, 0, NAMES - 1);
        needRange(thing, 0, MOST_THINGS - 1);
        int before = lets[name];
        lets[name] = thing;
        return before;
    }

    public boolean holds(int world, int formula) throws IndexOutOfBoundsException, UnsupportedOperationException {
        World found = worldAt(world);
        Formula asking = formulaAt(formula);
        for (int name = 0; name < NAMES; name++) {
            if (World.has(asking.freeNames(), name) && lets[name] >= found.things) {
                throw new UnsupportedOperationException("a name is let be a thing that there is not");
            }
        }
        reader.read(found, asking);
        return reader.isTold(lets);
    }

    public int ways(int world, int formula) throws IndexOutOfBoundsException {
        World found = worldAt(world);
        Formula asking = formulaAt(formula);
        reader.read(found, asking);
        return reader.countWays();
    }

    // ---- games

    public int position(int first, int second) throws IndexOutOfBoundsException {
        World one = worldAt(first);
        World other = worldAt(second);
        int before = pairCount;
        positionFirst = one;
        positionSecond = other;
        pairCount = 0;
        return before;
    }

    public int pair(int one, int other)
            throws NoSuchElementException, IndexOutOfBoundsException, IllegalStateException {
        needPosition();
        needThing(positionFirst, one);
        needThing(positionSecond, other);
        if (pairCount >= MOST_PAIRS) {
            throw new IllegalStateException("6 pairs are there");
        }
        ones[pairCount] = one;
        others[pairCount] = other;
        pairCount++;
        return pairCount;
    }

    public boolean isAlike() throws NoSuchElementException {
        needPosition();
        layPosition();
        return game.isEven();
    }

    public boolean answers(int rounds) throws NoSuchElementException, IllegalArgumentException {
        needPosition();
        needRange(rounds, 0, 3);
        layPosition();
        return game.isKept(rounds);
    }

    public int answer(boolean inFirst, int thing, int rounds)
            throws NoSuchElementException, IllegalArgumentException, IndexOutOfBoundsException,
            UnsupportedOperationException {
        needPosition();
        needRange(rounds, 0, 2);
        needThing(inFirst ? positionFirst : positionSecond, thing);
        layPosition();
        int found = game.lowestReply(inFirst, thing, rounds);
        if (found < 0) {
            throw new UnsupportedOperationException("nothing to answer");
        }
        return found;
    }

    public boolean pebbles(int first, int second, int pebbles, boolean isCounting)
            throws IndexOutOfBoundsException, IllegalArgumentException {
        World one = worldAt(first);
        World other = worldAt(second);
        needRange(pebbles, 1, 2);
        game.begin(one, other);
        return standing.isEndless(game, pebbles, isCounting);
    }

    public int types(int world, int rank) throws IndexOutOfBoundsException, IllegalArgumentException {
        World found = worldAt(world);
        needRange(rank, 0, 2);
        game.begin(found, found);
        int leaders = 0;
        for (int thing = 0; thing < found.things; thing++) {
            leaders |= isOfNewType(thing, leaders, rank) ? 1 << thing : 0;
        }
        return Integer.bitCount(leaders);
    }

    public int apart(int first, int second) throws IndexOutOfBoundsException, NoSuchElementException {
        World one = worldAt(first);
        World other = worldAt(second);
        game.begin(one, other);
        for (int rounds = 0; rounds <= 3; rounds++) {
            if (!game.isKept(rounds)) {
                return rounds;
            }
        }
        throw new NoSuchElementException("not told apart in 3 rounds");
    }

    public int telling(int rounds)
            throws NoSuchElementException, IllegalArgumentException, UnsupportedOperationException {
        needPosition();
        needRange(rounds, 0, 3);
        return toldLength(rounds);
    }

    public char tellingAt(int rounds, int index)
            throws NoSuchElementException, IllegalArgumentException, UnsupportedOperationException {
        needPosition();
        needRange(rounds, 0, 3);
        int length = toldLength(rounds);
        if (index < 0 || index >= length) {
            throw new NoSuchElementException("no such sign");
        }
        return teller.signAt(index);
    }

    // ---- colours

    public int colours(int world, boolean arePairs) throws IndexOutOfBoundsException {
        World found = worldAt(world);
        return tints.countIn(found, arePairs);
    }

    public boolean areAlike(int first, int second, boolean arePairs) throws IndexOutOfBoundsException {
        World one = worldAt(first);
        World other = worldAt(second);
        return tints.areSame(one, other, arePairs);
    }

    // ---- fixed points

    public int fixed(int world, int formula, int name, char kind)
            throws IndexOutOfBoundsException, IllegalArgumentException, UnsupportedOperationException {
        World found = worldAt(world);
        Formula asking = formulaAt(formula);
        needGrowth(asking, name, kind);
        return grown(found, asking, name, kind) >> 8;
    }

    public int stages(int world, int formula, int name, char kind)
            throws IndexOutOfBoundsException, IllegalArgumentException, UnsupportedOperationException {
        World found = worldAt(world);
        Formula asking = formulaAt(formula);
        needGrowth(asking, name, kind);
        return grown(found, asking, name, kind) & 255;
    }

    public int reaches(int world, int thing) throws IndexOutOfBoundsException {
        World found = worldAt(world);
        needThing(found, thing);
        return Integer.bitCount(found.reachOf(thing));
    }

    // ---- orders and sets

    public int orders(int world, int formula) throws IndexOutOfBoundsException, UnsupportedOperationException {
        World found = worldAt(world);
        Formula asking = formulaAt(formula);
        needFreeWithin(asking, 0);
        reader.read(found, asking);
        int all = 1;
        for (int factor = 2; factor <= found.things; factor++) {
            all *= factor;
        }
        if (!asking.isUsing(Formula.ORDER)) {
            return reader.isTold(lets) ? all : 0;
        }
        int kept = 0;
        for (int code = 0; code < all; code++) {
            reader.orderBy(code);
            reader.readAgain(Formula.ORDER);
            kept += reader.isTold(lets) ? 1 : 0;
        }
        return kept;
    }

    public int someSet(int world, int formula)
            throws IndexOutOfBoundsException, UnsupportedOperationException, NoSuchElementException {
        World found = worldAt(world);
        Formula asking = formulaAt(formula);
        needFreeWithin(asking, 0);
        reader.read(found, asking);
        for (int set = 0; set <= found.allThings(); set++) {
            reader.readSet(set);
            if (reader.isTold(lets)) {
                return set;
            }
        }
        throw new NoSuchElementException("no such set");
    }

    // ---- near and far

    public int ball(int world, int thing, int radius) throws IndexOutOfBoundsException, IllegalArgumentException {
        World found = worldAt(world);
        needThing(found, thing);
        needRange(radius, 0, 6);
        return found.near(thing, radius);
    }

    public boolean areKind(int world, int thing, int other, int otherThing, int radius)
            throws IndexOutOfBoundsException, IllegalArgumentException {
        World one = worldAt(world);
        needThing(one, thing);
        World two = worldAt(other);
        needThing(two, otherThing);
        needRange(radius, 0, 6);
        game.begin(one, two);
        return game.isPaired(one.near(thing, radius), thing, two.near(otherThing, radius), otherThing);
    }

    public int kinds(int world, int radius) throws IndexOutOfBoundsException, IllegalArgumentException {
        World found = worldAt(world);
        needRange(radius, 0, 6);
        game.begin(found, found);
        int leaders = 0;
        for (int thing = 0; thing < found.things; thing++) {
            leaders |= isOfNewKind(found, thing, leaders, radius) ? 1 << thing : 0;
        }
        return Integer.bitCount(leaders);
    }

    public int chance(int formula, int size)
            throws IndexOutOfBoundsException, IllegalArgumentException, UnsupportedOperationException {
        Formula asking = formulaAt(formula);
        needRange(size, 1, 3);
        needFreeWithin(asking, 0);
        spare.begin(size);
        reader.read(spare, asking);
        int all = 1 << (size * size);
        int kept = 0;
        for (int code = 0; code < all; code++) {
            for (int thing = 0; thing < size; thing++) {
                spare.steps[thing] = (code >> (thing * size)) & spare.allThings();
            }
            reader.readAgain(Formula.STEPS);
            kept += reader.isTold(lets) ? 1 : 0;
        }
        return kept;
    }

    // ---- maps

    public int maps(int first, int second) throws IndexOutOfBoundsException {
        World one = worldAt(first);
        World other = worldAt(second);
        mapper.begin(one, other);
        return mapper.countInto(other.allThings());
    }

    public int core(int world) throws IndexOutOfBoundsException {
        World found = worldAt(world);
        mapper.begin(found, found);
        int least = found.things;
        for (int set = 1; set < found.allThings(); set++) {
            if (Integer.bitCount(set) < least && mapper.isAnyInto(set)) {
                least = Integer.bitCount(set);
            }
        }
        return least;
    }

    public boolean areStepwise(int world, int thing, int other, int otherThing) throws IndexOutOfBoundsException {
        World one = worldAt(world);
        needThing(one, thing);
        World two = worldAt(other);
        needThing(two, otherThing);
        return standing.isStepwise(one, thing, two, otherThing);
    }

    public int operations(int world) throws IndexOutOfBoundsException, UnsupportedOperationException {
        World found = worldAt(world);
        if (found.things > 3) {
            throw new UnsupportedOperationException("more than 3 things");
        }
        spare.becomeProduct(found, found);
        mapper.begin(spare, found);
        return mapper.countInto(found.allThings());
    }

    // ---- the whole court

    public int worlds() {
        return courtSize;
    }

    public float truth(int formula)
            throws IndexOutOfBoundsException, UnsupportedOperationException, ArithmeticException {
        Formula asking = formulaAt(formula);
        needFreeWithin(asking, 0);
        needWorlds();
        int kept = 0;
        for (int number = 0; number < courtSize; number++) {
            reader.read(worldAt(number), asking);
            kept += reader.isTold(lets) ? 1 : 0;
        }
        return (float) kept / (float) courtSize;
    }

    public double meanSize() throws ArithmeticException {
        needWorlds();
        int sum = 0;
        for (int number = 0; number < courtSize; number++) {
            sum += worldAt(number).things;
        }
        return (double) sum / (double) courtSize;
    }

    public boolean isSound() {
        for (int rounds = 0; rounds <= 2 && positionFirst != null; rounds++) {
            layPosition();
            if (teller.tell(rounds) >= 0 && !teller.isTrue(rounds)) {
                return false;
            }
        }
        return areColoursNested();
    }

    // ---- what the face leans on

    private World worldAt(int number) {
        World found = number >= 0 && number < courtSize ? court[number] : null;
        if (found == null) {
            throw new IndexOutOfBoundsException("no such world");
        }
        return found;
    }

    private Formula formulaAt(int number) {
        Formula found = number >= 0 && number < bookSize ? book[number] : null;
        if (found == null) {
            throw new IndexOutOfBoundsException("no such formula");
        }
        return found;
    }

    private static void needThing(World world, int thing) {
        if (world == null || thing < 0 || thing >= world.things) {
            throw new IndexOutOfBoundsException("no such thing");
        }
    }

    private static void needRange(int number, int least, int most) {
        if (number < least || number > most) {
            throw new IllegalArgumentException("a number is out of range");
        }
    }

    private static void needFreeWithin(Formula formula, int names) {
        if ((formula.freeNames() & ~names) != 0) {
            throw new UnsupportedOperationException("a name is free that must not be");
        }
    }

    private void needCourtRoom() {
        if (courtSize >= MOST_WORLDS) {
            throw new IllegalStateException("12 worlds are there");
        }
    }

    private void needWorlds() {
        if (courtSize == 0) {
            throw new ArithmeticException("no worlds");
        }
    }

    private void needPosition() {
        if (positionFirst == null || positionSecond == null) {
            throw new NoSuchElementException("no position was begun");
        }
    }

    private static void needGrowth(Formula formula, int name, char kind) {
        needRange(name, 0, NAMES - 1);
        if (kind != 'l' && kind != 'g' && kind != 'w') {
            throw new IllegalArgumentException("no such kind");
        }
        needFreeWithin(formula, 1 << name);
        if (kind == 'l' && formula.isUsing(Formula.SET_UNDER_ODD)) {
            throw new UnsupportedOperationException("X stands under an odd number of !");
        }
    }

    private int added(World fresh) {
        if (courtSize < MOST_WORLDS) {
            court[courtSize] = fresh;
            courtSize++;
        }
        return courtSize - 1;
    }

    // Worlds may have changed since the last call, so the game is laid anew each time.
    private void layPosition() {
        if (positionFirst == null || positionSecond == null) {
            return;
        }
        game.begin(positionFirst, positionSecond);
        for (int at = 0; at < pairCount; at++) {
            game.lay(ones[at], others[at]);
        }
    }

    private boolean isOfNewType(int thing, int leaders, int rank) {
        for (int leader = 0; leader < thing; leader++) {
            if (World.has(leaders, leader) && game.isSameType(leader, thing, rank)) {
                return false;
            }
        }
        return true;
    }

    private boolean isOfNewKind(World world, int thing, int leaders, int radius) {
        int ball = world.near(thing, radius);
        for (int leader = 0; leader < thing; leader++) {
            if (World.has(leaders, leader)
                    && game.isPaired(world.near(leader, radius), leader, ball, thing)) {
                return false;
            }
        }
        return true;
    }

    private int toldLength(int rounds) {
        layPosition();
        int length = teller.tell(rounds);
        if (length < 0) {
            throw new UnsupportedOperationException("no telling formula");
        }
        return length;
    }

    // The set stands above the eight low bits, the stages in them, so that both calls share one way.
    private int grown(World world, Formula formula, int name, char kind) {
        reader.read(world, formula);
        long seen = 1L;
        int set = 0;
        int stages = 0;
        for (int turn = 0; turn <= 64; turn++) {
            int next = reader.holdersOf(set, name, asked);
            if (kind == 'g') {
                next |= set;
            }
            if (next == set) {
                return set << 8 | stages;
            }
            stages++;
            if ((seen >>> next & 1L) != 0L) {
                return stages;
            }
            seen |= 1L << next;
            set = next;
        }
        return stages;
    }

    private boolean areColoursNested() {
        for (int one = 0; one < courtSize; one++) {
            for (int other = 0; other < one; other++) {
                World first = worldAt(one);
                World second = worldAt(other);
                if (!tints.areSame(first, second, false) && tints.areSame(first, second, true)) {
                    return false;
                }
            }
        }
        return true;
    }

    /** A world: its things are bits, its steps and threads rows of them; a product of two threes fits too. */
    private static final class World {
        static final int ROOM = 9;
        final int[] steps = new int[ROOM];
        final int[] threads = new int[ROOM];
        int things = 1;
        int markedP;
        int markedQ;

        static boolean has(int set, int thing) {
            return (set >>> thing & 1) != 0;
        }

        static int lowestOf(int set) {
            for (int thing = 0; thing < ROOM; thing++) {
                if (has(set, thing)) {
                    return thing;
                }
            }
            return 0;
        }

        void begin(int count) {
            things = Math.max(1, Math.min(count, ROOM));
            markedP = 0;
            markedQ = 0;
            for (int thing = 0; thing < ROOM; thing++) {
                steps[thing] = 0;
                threads[thing] = 0;
            }
        }

        int allThings() {
            return (1 << things) - 1;
        }

        int countIn(int[] rows) {
            int count = 0;
            for (int thing = 0; thing < things && thing < rows.length; thing++) {
                count += Integer.bitCount(rows[thing]);
            }
            return count;
        }

        // The things from which rows lead to the thing.
        int backOf(int[] rows, int thing) {
            int set = 0;
            for (int from = 0; from < things && from < rows.length; from++) {
                set |= (rows[from] >>> thing & 1) << from;
            }
            return set;
        }

        int loopsOf(int[] rows) {
            int set = 0;
            for (int thing = 0; thing < things && thing < rows.length; thing++) {
                set |= rows[thing] & 1 << thing;
            }
            return set;
        }

        // Marks and loops of a thing in one number.
        int kindOf(int thing) {
            if (thing < 0 || thing >= things) {
                return 0;
            }
            return (markedP >>> thing & 1) | (markedQ >>> thing & 1) << 1
                    | (steps[thing] >>> thing & 1) << 2 | (threads[thing] >>> thing & 1) << 3;
        }

        // What is between two things, both ways, and whether they are one, in five bits.
        int tieOf(int one, int other) {
            if (one < 0 || one >= things || other < 0 || other >= things) {
                return 0;
            }
            return (steps[one] >>> other & 1) | (steps[other] >>> one & 1) << 1
                    | (threads[one] >>> other & 1) << 2 | (threads[other] >>> one & 1) << 3
                    | (one == other ? 16 : 0);
        }

        int reachOf(int thing) {
            int set = thing >= 0 && thing < things ? steps[thing] : 0;
            for (int turn = 0; turn < things; turn++) {
                int wider = set;
                for (int from = 0; from < things; from++) {
                    wider |= has(set, from) ? steps[from] : 0;
                }
                set = wider;
            }
            return set;
        }

        int near(int thing, int radius) {
            int set = 1 << thing;
            for (int turn = 0; turn < radius; turn++) {
                int wider = set;
                for (int from = 0; from < things; from++) {
                    int led = steps[from] | threads[from];
                    wider |= has(set, from) ? led : 0;
                    wider |= (led & set) != 0 ? 1 << from : 0;
                }
                set = wider;
            }
            return set;
        }

        void becomeSum(World one, World other) {
            begin(one.things + other.things);
            for (int a = 0; a < one.things; a++) {
                steps[a] = one.steps[a];
                threads[a] = one.threads[a];
            }
            for (int b = 0; b < other.things && one.things + b < things; b++) {
                steps[one.things + b] = other.steps[b] << one.things;
                threads[one.things + b] = other.threads[b] << one.things;
            }
            markedP = one.markedP | other.markedP << one.things;
            markedQ = one.markedQ | other.markedQ << one.things;
        }

        void becomeProduct(World one, World other) {
            int wide = other.things;
            begin(one.things * wide);
            for (int thing = 0; thing < things; thing++) {
                int a = wide > 0 ? thing / wide : 0;
                int b = thing - a * wide;
                steps[thing] = spread(one.steps[a], other.steps[b], wide);
                threads[thing] = spread(one.threads[a], other.threads[b], wide);
            }
            markedP = spread(one.markedP, other.markedP, wide);
            markedQ = spread(one.markedQ, other.markedQ, wide);
        }

        private static int spread(int set, int other, int wide) {
            int all = 0;
            for (int a = 0; a < MOST_THINGS; a++) {
                all |= has(set, a) ? other << a * wide : 0;
            }
            return all;
        }

        void becomeTurned(World one) {
            begin(one.things);
            for (int thing = 0; thing < things; thing++) {
                steps[thing] = ~one.steps[thing] & allThings();
                threads[thing] = one.threads[thing];
            }
            markedP = one.markedP;
            markedQ = one.markedQ;
        }

        void becomePart(World one, int set) {
            begin(Integer.bitCount(set));
            int next = 0;
            for (int thing = 0; thing < one.things && next < things; thing++) {
                if (has(set, thing)) {
                    steps[next] = squeezed(one.steps[thing], set);
                    threads[next] = squeezed(one.threads[thing], set);
                    next++;
                }
            }
            markedP = squeezed(one.markedP, set);
            markedQ = squeezed(one.markedQ, set);
        }

        private static int squeezed(int bits, int set) {
            int all = 0;
            int next = 0;
            for (int thing = 0; thing < MOST_THINGS; thing++) {
                if (has(set, thing)) {
                    all |= (bits >>> thing & 1) << next;
                    next++;
                }
            }
            return all;
        }
    }

    /** What the signs are, and where a text of them goes wrong. */
    private static final class Signs {
        static final int NONE = 0;
        static final int OF_TWO = 1;
        static final int OF_ONE = 2;
        static final int NOT = 3;
        static final int BOTH = 4;
        static final int BINDS = 5;
        static final int NAME = 6;

        static int kindOf(char sign) {
            switch (sign) {
                case 'E': case 'F': case '=': case '<':
                    return OF_TWO;
                case 'P': case 'Q': case 'X':
                    return OF_ONE;
                case '!':
                    return NOT;
                case '&': case '|':
                    return BOTH;
                case '#': case '@': case '1': case '2': case '3': case '4': case '5': case '6':
                    return BINDS;
                default:
                    return nameOf(sign) >= 0 ? NAME : NONE;
            }
        }

        static int nameOf(char sign) {
            if (sign >= 'x' && sign <= 'z') {
                return sign - 'x';
            }
            return sign >= 'u' && sign <= 'w' ? sign - 'u' + 3 : -1;
        }

        static char nameSign(int name) {
            return (char) (name < 3 ? 'x' + name : 'u' + name - 3);
        }

        static int faultIn(char[] signs, int length) {
            int names = 0;
            int formulas = 1;
            for (int at = 0; at < length && at < signs.length; at++) {
                int kind = kindOf(signs[at]);
                boolean isName = kind == NAME;
                if (isName != (names > 0) || (!isName && formulas == 0) || kind == NONE) {
                    return at;
                }
                if (isName) {
                    names--;
                } else if (kind == OF_TWO || kind == OF_ONE) {
                    names = kind == OF_TWO ? 2 : 1;
                    formulas--;
                } else if (kind == BOTH) {
                    formulas++;
                } else if (kind == BINDS) {
                    names = 1;
                }
            }
            return names > 0 || formulas > 0 ? length : -1;
        }

        // For each sign that begins a formula: where what is behind it begins, and how deep it is bound.
        static void chart(char[] signs, int length, int[] ends, int[] depths) {
            int most = Math.min(Math.min(length, signs.length), Math.min(ends.length, depths.length));
            for (int at = most - 1; at >= 0; at--) {
                int kind = kindOf(signs[at]);
                int inner = kind == BINDS ? at + 2 : at + 1;
                int end = kind == OF_TWO ? at + 3 : inner;
                int depth = 0;
                if (kind == OF_ONE) {
                    end = at + 2;
                } else if (kind == NOT || kind == BINDS || kind == BOTH) {
                    end = pick(ends, inner, most);
                    depth = pick(depths, inner, 0) + (kind == BINDS ? 1 : 0);
                }
                if (kind == BOTH) {
                    depth = Math.max(depth, pick(depths, end, 0));
                    end = pick(ends, end, most);
                }
                ends[at] = end;
                depths[at] = depth;
            }
        }

        static int pick(int[] row, int at, int otherwise) {
            return at >= 0 && at < row.length ? row[at] : otherwise;
        }
    }

    /** A formula with what is asked of each of its signs that begins a formula. */
    private static final class Formula {
        static final int ORDER = 1;
        static final int SET_UNDER_EVEN = 2;
        static final int SET_UNDER_ODD = 4;
        static final int STEPS = 8;
        static final int ANY = 16;
        final char[] signs = new char[MOST_SIGNS];
        final int[] ends = new int[MOST_SIGNS];
        final int[] depths = new int[MOST_SIGNS];
        final int[] frees = new int[MOST_SIGNS];
        final int[] uses = new int[MOST_SIGNS];
        final int length;
        int names;

        Formula(char[] typed, int count) {
            length = Math.min(Math.min(count, typed.length), MOST_SIGNS);
            for (int at = 0; at < length; at++) {
                signs[at] = typed[at];
                int name = Signs.nameOf(typed[at]);
                names |= name >= 0 ? 1 << name : 0;
            }
            Signs.chart(signs, length, ends, depths);
            for (int at = length - 1; at >= 0; at--) {
                weigh(at);
            }
        }

        private void weigh(int at) {
            int kind = Signs.kindOf(signs[at]);
            if (kind == Signs.OF_TWO) {
                frees[at] = nameBit(at + 1) | nameBit(at + 2);
                uses[at] = ANY | (signs[at] == 'E' ? STEPS : signs[at] == '<' ? ORDER : 0);
            } else if (kind == Signs.OF_ONE) {
                frees[at] = nameBit(at + 1);
                uses[at] = ANY | (signs[at] == 'X' ? SET_UNDER_EVEN : 0);
            } else if (kind == Signs.NOT) {
                frees[at] = Signs.pick(frees, at + 1, 0);
                uses[at] = swapped(Signs.pick(uses, at + 1, ANY));
            } else if (kind == Signs.BOTH) {
                int second = secondOf(at);
                frees[at] = Signs.pick(frees, at + 1, 0) | Signs.pick(frees, second, 0);
                uses[at] = Signs.pick(uses, at + 1, ANY) | Signs.pick(uses, second, ANY);
            } else if (kind == Signs.BINDS) {
                frees[at] = Signs.pick(frees, at + 2, 0) & ~nameBit(at + 1);
                uses[at] = Signs.pick(uses, at + 2, ANY);
            }
        }

        private static int swapped(int uses) {
            int kept = uses & ~(SET_UNDER_EVEN | SET_UNDER_ODD);
            return kept | ((uses & SET_UNDER_EVEN) != 0 ? SET_UNDER_ODD : 0)
                    | ((uses & SET_UNDER_ODD) != 0 ? SET_UNDER_EVEN : 0);
        }

        private int nameBit(int at) {
            int name = nameAt(at);
            return name >= 0 ? 1 << name : 0;
        }

        int nameAt(int at) {
            return at >= 0 && at < length ? Signs.nameOf(signs[at]) : -1;
        }

        int secondOf(int at) {
            return Signs.pick(ends, at + 1, length);
        }

        int freeNames() {
            return frees[0];
        }

        int deepest() {
            return depths[0];
        }

        boolean isUsing(int what) {
            return (uses[0] & what) != 0;
        }
    }

    /**
     * Reads a formula in a world for all ways at once: per sign a row of longs, in each of them the
     * things of the first two names (eight times the first, plus the second), by the things of the
     * other names as digits to eight. Reading name by name would take time that doubles too often.
     */
    private static final class Reader {
        private static final int SETS = Formula.SET_UNDER_EVEN | Formula.SET_UNDER_ODD;
        private static final long LOW_ROW = 0xFFL;
        private static final long LOW_COLUMN = 0x0101010101010101L;
        private static final int[] SELVES = {1, 2, 4, 8, 16, 32};
        private final int[] places = new int[NAMES];
        private final int[] masks = new int[MOST_SIGNS];
        private final int[] cells = new int[1296];
        private final long[] tally = new long[8];
        private final int[] ahead = new int[MOST_THINGS];
        private long[] table = new long[MOST_SIGNS];
        private int slot = 1;
        private World world = new World();
        private Formula formula = new Formula(new char[0], 0);
        private int set;
        private long valid;

        void read(World place, Formula text) {
            world = place;
            formula = text;
            set = 0;
            for (int thing = 0; thing < MOST_THINGS; thing++) {
                ahead[thing] = place.allThings() & -(2 << thing);
            }
            valid = 0L;
            for (int thing = 0; thing < place.things && thing < MOST_THINGS; thing++) {
                valid |= (long) place.allThings() << 8 * thing;
            }
            givePlaces();
            readAgain(Formula.ANY);
        }

        private void givePlaces() {
            int next = 0;
            for (int name = 0; name < NAMES; name++) {
                boolean isThere = World.has(formula.names, name);
                places[name] = isThere ? next : -1;
                next += isThere ? 1 : 0;
            }
            slot = next <= 2 ? 1 : 1 << 3 * (next - 2);
            int needed = slot * MOST_SIGNS;
            if (needed > table.length) {
                table = new long[needed];
            }
            for (int at = 0; at < formula.length; at++) {
                masks[at] = digitsOf(formula.frees[at]);
            }
        }

        private int digitsOf(int names) {
            int mask = 0;
            for (int name = 0; name < NAMES; name++) {
                if (World.has(names, name) && places[name] >= 2) {
                    mask |= 7 << shiftOf(places[name]);
                }
            }
            return mask;
        }

        private static int shiftOf(int place) {
            return 3 * (place - 2);
        }

        void readSet(int things) {
            set = things;
            readAgain(SETS);
        }

        int holdersOf(int things, int name, int[] values) {
            set = things;
            readAgain(SETS);
            int holders = 0;
            for (int thing = 0; thing < world.things; thing++) {
                if (name >= 0 && name < values.length) {
                    values[name] = thing;
                }
                holders |= isTold(values) ? 1 << thing : 0;
            }
            return holders;
        }

        // Each code below the number of orders tells another one: which of the things left comes next.
        void orderBy(int code) {
            int left = world.allThings();
            int rest = code;
            for (int count = world.things; count > 0; count--) {
                int skipped = rest % count;
                rest /= count;
                int thing = nthOf(left, skipped);
                left &= ~(1 << thing);
                ahead[thing] = left;
            }
        }

        private static int nthOf(int things, int skipped) {
            int left = skipped;
            for (int thing = 0; thing < MOST_THINGS; thing++) {
                if (World.has(things, thing)) {
                    if (left == 0) {
                        return thing;
                    }
                    left--;
                }
            }
            return 0;
        }

        // What does not lean on the thing that has changed stands as it was read before.
        void readAgain(int what) {
            for (int at = formula.length - 1; at >= 0; at--) {
                if ((formula.uses[at] & what) == 0) {
                    continue;
                }
                int count = listCells(masks[at]);
                int kind = Signs.kindOf(formula.signs[at]);
                if (kind == Signs.OF_TWO) {
                    readTie(at, count, rowsOf(formula.signs[at]));
                } else if (kind == Signs.OF_ONE) {
                    readMark(at, count, setOf(formula.signs[at]));
                } else if (kind == Signs.NOT) {
                    readOpposite(at, count);
                } else if (kind == Signs.BOTH) {
                    readBoth(at, count);
                } else if (kind == Signs.BINDS) {
                    readBinding(at, count);
                }
            }
        }

        private int listCells(int mask) {
            int count = 1;
            cells[0] = 0;
            for (int shift = 0; shift < 12; shift += 3) {
                if ((mask >>> shift & 1) == 0) {
                    continue;
                }
                int before = count;
                for (int digit = 1; digit < world.things; digit++) {
                    for (int i = 0; i < before && count < cells.length; i++) {
                        cells[count] = cells[i] | digit << shift;
                        count++;
                    }
                }
            }
            return count;
        }

        private void put(int at, int cell, long value) {
            int index = at * slot + cell;
            if (index >= 0 && index < table.length) {
                table[index] = value & valid;
            }
        }

        private long look(int at, int cell) {
            if (at < 0 || at >= MOST_SIGNS) {
                return 0L;
            }
            int index = at * slot + (cell & masks[at]);
            return index >= 0 && index < table.length ? table[index] : 0L;
        }

        private int[] rowsOf(char sign) {
            if (sign == 'E') {
                return world.steps;
            }
            if (sign == 'F') {
                return world.threads;
            }
            return sign == '=' ? SELVES : ahead;
        }

        private int setOf(char sign) {
            if (sign == 'P') {
                return world.markedP;
            }
            return sign == 'Q' ? world.markedQ : set;
        }

        // The ways in which the name of a place is the thing, as far as the cell leaves them.
        private static long lane(int place, int thing, int cell) {
            if (place == 0) {
                return LOW_ROW << 8 * thing;
            }
            if (place == 1) {
                return LOW_COLUMN << thing;
            }
            return (cell >>> 3 * (place - 2) & 7) == thing ? -1L : 0L;
        }

        private int placeAt(int at) {
            int name = formula.nameAt(at);
            return name >= 0 ? places[name] : 0;
        }

        private void readTie(int at, int count, int[] rows) {
            int from = placeAt(at + 1);
            int to = placeAt(at + 2);
            for (int i = 0; i < count; i++) {
                long value = 0L;
                for (int one = 0; one < world.things && one < rows.length; one++) {
                    long lane = lane(from, one, cells[i]);
                    if (lane != 0L) {
                        value |= lane & lanes(to, rows[one], cells[i]);
                    }
                }
                put(at, cells[i], value);
            }
        }

        private void readMark(int at, int count, int things) {
            int place = placeAt(at + 1);
            for (int i = 0; i < count; i++) {
                put(at, cells[i], lanes(place, things, cells[i]));
            }
        }

        private long lanes(int place, int things, int cell) {
            long value = 0L;
            for (int thing = 0; thing < world.things; thing++) {
                value |= World.has(things, thing) ? lane(place, thing, cell) : 0L;
            }
            return value;
        }

        private void readOpposite(int at, int count) {
            for (int i = 0; i < count; i++) {
                put(at, cells[i], ~look(at + 1, cells[i]));
            }
        }

        private void readBoth(int at, int count) {
            int second = formula.secondOf(at);
            boolean isBoth = formula.signs[at] == '&';
            for (int i = 0; i < count; i++) {
                long one = look(at + 1, cells[i]);
                long other = look(second, cells[i]);
                put(at, cells[i], isBoth ? one & other : one | other);
            }
        }

        private void readBinding(int at, int count) {
            char sign = formula.signs[at];
            int least = sign == '#' ? 1 : sign == '@' ? world.things : sign - '0';
            int most = Math.max(0, Math.min(least, MOST_THINGS));
            int place = placeAt(at + 1);
            for (int i = 0; i < count; i++) {
                startTally(most);
                for (int thing = 0; thing < world.things; thing++) {
                    long told = bodyAt(at + 2, place, thing, cells[i]);
                    for (int k = most; k > 0; k--) {
                        tally[k] |= tally[k - 1] & told;
                    }
                }
                put(at, cells[i], tally[most]);
            }
        }

        // tally[k] is to have the ways for which at least k of the things looked at so far were told.
        private void startTally(int most) {
            tally[0] = -1L;
            for (int k = 1; k <= most && k < tally.length; k++) {
                tally[k] = 0L;
            }
        }

        private long bodyAt(int body, int place, int thing, int cell) {
            if (place >= 2) {
                return look(body, cell | thing << shiftOf(place));
            }
            long value = look(body, cell);
            if (place == 0) {
                return (value >>> 8 * thing & LOW_ROW) * LOW_COLUMN;
            }
            return (value >>> thing & LOW_COLUMN) * LOW_ROW;
        }

        boolean isTold(int[] values) {
            int cell = 0;
            int bit = 0;
            for (int name = 0; name < NAMES && name < values.length; name++) {
                if (World.has(formula.freeNames(), name)) {
                    int place = places[name];
                    bit += place == 0 ? 8 * values[name] : place == 1 ? values[name] : 0;
                    cell |= place >= 2 ? values[name] << shiftOf(place) : 0;
                }
            }
            return (look(0, cell) >>> bit & 1L) != 0L;
        }

        int countWays() {
            long lanes = valid;
            lanes &= isFreePlace(0) ? -1L : LOW_ROW;
            lanes &= isFreePlace(1) ? -1L : LOW_COLUMN;
            int count = listCells(masks[0]);
            int ways = 0;
            for (int i = 0; i < count; i++) {
                ways += Long.bitCount(look(0, cells[i]) & lanes);
            }
            return ways;
        }

        private boolean isFreePlace(int place) {
            for (int name = 0; name < NAMES; name++) {
                if (places[name] == place && World.has(formula.freeNames(), name)) {
                    return true;
                }
            }
            return false;
        }
    }

    /** A game of rounds between two worlds: for each number of pairs laid, what each thing can still go with. */
    private static final class Game {
        private static final int MOST_LAID = 9;
        private final int[] ties = new int[MOST_THINGS * MOST_THINGS];
        private final int[] fits = new int[MOST_THINGS * 32];
        private final int[][] rooms = new int[MOST_LAID + 1][MOST_THINGS];
        private final int[] left = new int[MOST_LAID];
        private final int[] right = new int[MOST_LAID];
        private World first = new World();
        private World second = first;
        private int laid;
        private int laidAlike;

        void begin(World one, World other) {
            first = one;
            second = other;
            laid = 0;
            laidAlike = 0;
            for (int a = 0; a < MOST_THINGS; a++) {
                rooms[0][a] = 0;
                for (int c = 0; c < MOST_THINGS; c++) {
                    ties[a * MOST_THINGS + c] = one.tieOf(a, c);
                }
                for (int b = 0; a < one.things && b < other.things; b++) {
                    rooms[0][a] |= one.kindOf(a) == other.kindOf(b) ? 1 << b : 0;
                }
            }
            for (int i = 0; i < fits.length; i++) {
                fits[i] = 0;
            }
            for (int b = 0; b < other.things && b < MOST_THINGS; b++) {
                for (int d = 0; d < other.things; d++) {
                    fits[b * 32 + other.tieOf(b, d)] |= 1 << d;
                }
            }
        }

        int laidPairs() {
            return laid;
        }

        World worldOf(boolean isSecond) {
            return isSecond ? second : first;
        }

        int laidThing(boolean isSecond, int at) {
            if (at < 0 || at >= laid) {
                return 0;
            }
            return isSecond ? right[at] : left[at];
        }

        // What c may go with beside the pair of a and b, apart from what is laid.
        int besides(int a, int b, int c) {
            return fits[b * 32 + ties[a * MOST_THINGS + c]];
        }

        int roomOf(int thing) {
            return thing >= 0 && thing < MOST_THINGS ? rooms[laid][thing] : 0;
        }

        void lay(int a, int b) {
            if (laid >= MOST_LAID || a < 0 || a >= MOST_THINGS || b < 0 || b >= MOST_THINGS) {
                return;
            }
            if (laidAlike == laid && World.has(rooms[laid][a], b)) {
                laidAlike++;
            }
            for (int c = 0; c < MOST_THINGS; c++) {
                rooms[laid + 1][c] = rooms[laid][c] & fits[b * 32 + ties[a * MOST_THINGS + c]];
            }
            left[laid] = a;
            right[laid] = b;
            laid++;
        }

        void lift() {
            laid = Math.max(0, laid - 1);
            laidAlike = Math.min(laidAlike, laid);
        }

        boolean isEven() {
            return laidAlike == laid;
        }

        boolean isKept(int rounds) {
            return isEven() && isSurvived(rounds);
        }

        // Two things of a game without pairs.
        boolean isSameType(int one, int other, int rounds) {
            return isAnswered(one, other, rounds);
        }

        // -1 if there is none.
        int lowestReply(boolean inFirst, int thing, int rounds) {
            return isEven() ? replyTo(inFirst, thing, rounds) : -1;
        }

        private boolean isSurvived(int rounds) {
            if (rounds <= 0 || laid >= MOST_LAID) {
                return true;
            }
            if (rounds == 1) {
                return isLastSurvived();
            }
            int answered = 0;
            for (int a = 0; a < first.things; a++) {
                int b = replyTo(true, a, rounds - 1);
                if (b < 0) {
                    return false;
                }
                answered |= 1 << b;
            }
            for (int b = 0; b < second.things; b++) {
                if (!World.has(answered, b) && replyTo(false, b, rounds - 1) < 0) {
                    return false;
                }
            }
            return true;
        }

        private boolean isLastSurvived() {
            int answered = 0;
            for (int a = 0; a < first.things; a++) {
                int room = rooms[laid][a];
                if (room == 0) {
                    return false;
                }
                answered |= room;
            }
            return answered == second.allThings();
        }

        // For a position that is alike.
        private int replyTo(boolean inFirst, int thing, int rounds) {
            int things = inFirst ? second.things : first.things;
            for (int other = 0; other < things; other++) {
                if (isAnswered(inFirst ? thing : other, inFirst ? other : thing, rounds)) {
                    return other;
                }
            }
            return -1;
        }

        private boolean isAnswered(int a, int b, int rounds) {
            if (!World.has(roomOf(a), b)) {
                return false;
            }
            if (rounds <= 0) {
                return true;
            }
            lay(a, b);
            boolean isGood = isSurvived(rounds);
            lift();
            return isGood;
        }

        // The first move that wins for who spoils, 6 added for the second world; -1 if there is none.
        int spoilingMove(int rounds, boolean isSecondAhead) {
            if (rounds <= 0) {
                return -1;
            }
            for (int turn = 0; turn < 2; turn++) {
                boolean inSecond = (turn == 1) != isSecondAhead;
                int things = worldOf(inSecond).things;
                for (int thing = 0; thing < things; thing++) {
                    if (replyTo(!inSecond, thing, rounds - 1) < 0) {
                        return inSecond ? MOST_THINGS + thing : thing;
                    }
                }
            }
            return -1;
        }

        boolean isPaired(int things, int middle, int otherThings, int otherMiddle) {
            if (Integer.bitCount(things) != Integer.bitCount(otherThings)
                    || !World.has(roomOf(middle), otherMiddle)) {
                return false;
            }
            lay(middle, otherMiddle);
            boolean isGood = isPairedOff(things & ~(1 << middle), otherThings & ~(1 << otherMiddle));
            lift();
            return isGood;
        }

        private boolean isPairedOff(int things, int otherThings) {
            if (things == 0 || laid >= MOST_THINGS) {
                return things == 0 && otherThings == 0;
            }
            int a = World.lowestOf(things);
            int room = roomOf(a) & otherThings;
            for (int b = 0; b < second.things; b++) {
                if (World.has(room, b)) {
                    lay(a, b);
                    boolean isGood = isPairedOff(things & ~(1 << a), otherThings & ~(1 << b));
                    lift();
                    if (isGood) {
                        return true;
                    }
                }
            }
            return false;
        }
    }

    /** The most pairs that stand for ever: of the endless games of pebbles, and of likeness step by step. */
    private static final class Standing {
        private static final int MOST_TURNS = 40;
        // Of the sets of things, by number, those without thing 0, 1, and so on.
        private static final long[] SETS_WITHOUT = {0x5555555555555555L, 0x3333333333333333L,
            0x0F0F0F0F0F0F0F0FL, 0x00FF00FF00FF00FFL, 0x0000FFFF0000FFFFL, 0x00000000FFFFFFFFL};
        private final int[] stands = new int[MOST_THINGS];
        private final int[] choices = new int[MOST_THINGS];

        boolean isEndless(Game game, int pebbles, boolean isCounting) {
            World first = game.worldOf(false);
            World second = game.worldOf(true);
            for (int a = 0; a < MOST_THINGS; a++) {
                stands[a] = game.roomOf(a);
            }
            boolean isChanged = pebbles > 1;
            for (int turn = 0; isChanged && turn < MOST_TURNS; turn++) {
                isChanged = false;
                for (int pair = 0; pair < MOST_THINGS * MOST_THINGS; pair++) {
                    int a = pair / MOST_THINGS;
                    int b = pair % MOST_THINGS;
                    if (World.has(stands[a], b) && !isFollowed(game, a, b, isCounting)) {
                        stands[a] &= ~(1 << b);
                        isChanged = true;
                    }
                }
            }
            return isAnswerable(stands, first, second, isCounting);
        }

        private boolean isFollowed(Game game, int a, int b, boolean isCounting) {
            for (int c = 0; c < MOST_THINGS; c++) {
                choices[c] = stands[c] & game.besides(a, b, c);
            }
            return isAnswerable(choices, game.worldOf(false), game.worldOf(true), isCounting);
        }

        private static boolean isAnswerable(int[] rows, World first, World second, boolean isCounting) {
            return isCounting ? isMatched(rows, first, second) : isCovered(rows, first, second);
        }

        private static boolean isCovered(int[] rows, World first, World second) {
            int answered = 0;
            for (int a = 0; a < first.things && a < rows.length; a++) {
                if (rows[a] == 0) {
                    return false;
                }
                answered |= rows[a];
            }
            return answered == second.allThings();
        }

        // Bit s of taken: the things so far can be paired off with just those of the set s.
        private static boolean isMatched(int[] rows, World first, World second) {
            if (first.things != second.things) {
                return false;
            }
            long taken = 1L;
            for (int a = 0; a < first.things && a < rows.length; a++) {
                long next = 0L;
                for (int b = 0; b < second.things && b < SETS_WITHOUT.length; b++) {
                    next |= World.has(rows[a], b) ? (taken & SETS_WITHOUT[b]) << (1 << b) : 0L;
                }
                taken = next;
            }
            return (taken >>> second.allThings() & 1L) != 0L;
        }

        boolean isStepwise(World one, int thing, World other, int otherThing) {
            if (thing < 0 || thing >= one.things || thing >= MOST_THINGS) {
                return false;
            }
            for (int a = 0; a < MOST_THINGS; a++) {
                stands[a] = a < one.things ? sameMarks(one, a, other) : 0;
            }
            boolean isChanged = true;
            for (int turn = 0; isChanged && turn < MOST_TURNS; turn++) {
                isChanged = false;
                for (int pair = 0; pair < MOST_THINGS * MOST_THINGS; pair++) {
                    int a = pair / MOST_THINGS;
                    int b = pair % MOST_THINGS;
                    if (World.has(stands[a], b) && !areStepsMet(one.steps[a], other.steps[b])) {
                        stands[a] &= ~(1 << b);
                        isChanged = true;
                    }
                }
            }
            return World.has(stands[thing], otherThing);
        }

        private static int sameMarks(World one, int thing, World other) {
            int withP = World.has(one.markedP, thing) ? other.markedP : ~other.markedP;
            int withQ = World.has(one.markedQ, thing) ? other.markedQ : ~other.markedQ;
            return withP & withQ & other.allThings();
        }

        private boolean areStepsMet(int steps, int otherSteps) {
            int met = 0;
            for (int c = 0; c < MOST_THINGS; c++) {
                if (World.has(steps, c)) {
                    if ((stands[c] & otherSteps) == 0) {
                        return false;
                    }
                    met |= stands[c];
                }
            }
            return (otherSteps & ~met) == 0;
        }
    }

    /** Writes the telling formula of the position that is laid in a game, and reads it. */
    private static final class Teller {
        private static final int MOST_TOLD = 600;
        private static final int MOST_OPEN = 40;
        // Three rows in the making, each of at most 600 signs, with a part behind them, fit well.
        private final char[] text = new char[2048];
        private final int[][] rows = new int[4][MOST_THINGS + 2];
        private final int[] ends = new int[MOST_TOLD];
        private final int[] depths = new int[MOST_TOLD];
        private final int[] values = new int[NAMES];
        private final Game game;
        private int length;

        Teller(Game game) {
            this.game = game;
        }

        int tell(int rounds) {
            length = write(0, rounds, false);
            return length;
        }

        char signAt(int index) {
            return index >= 0 && index < length && index < text.length ? text[index] : ' ';
        }

        // Where the text ends, begun at a place; -1 if there is none.
        private int write(int at, int rounds, boolean isSecondAhead) {
            if (!game.isEven()) {
                return writeTie(at, isSecondAhead);
            }
            int move = game.laidPairs() < NAMES ? game.spoilingMove(rounds, isSecondAhead) : -1;
            if (move < 0) {
                return -1;
            }
            boolean inSecond = move >= MOST_THINGS;
            int thing = inSecond ? move - MOST_THINGS : move;
            return writeRow(at, rounds - 1, inSecond, thing, inSecond != isSecondAhead);
        }

        private int writeRow(int at, int rounds, boolean inSecond, int thing, boolean isOpposite) {
            if (rounds < 0 || rounds >= rows.length) {
                return -1;
            }
            int[] starts = rows[rounds];
            int parts = 0;
            int end = at;
            int others = game.worldOf(!inSecond).things;
            int prefix = isOpposite ? 3 : 2;
            for (int other = 0; other < others && other < MOST_THINGS; other++) {
                game.lay(inSecond ? other : thing, inSecond ? thing : other);
                int next = write(end, rounds, inSecond);
                game.lift();
                if (next < 0) {
                    return -1;
                }
                starts[parts] = end;
                starts[parts + 1] = next;
                if (!isThere(starts, parts)) {
                    parts++;
                    end = next;
                }
                if (prefix + parts - 1 + end - at > MOST_TOLD) {
                    return -1;
                }
            }
            return weave(at, starts, parts, prefix);
        }

        private boolean isThere(int[] starts, int parts) {
            int size = starts[parts + 1] - starts[parts];
            for (int part = 0; part < parts; part++) {
                if (starts[part + 1] - starts[part] == size && isSame(starts[part], starts[parts], size)) {
                    return true;
                }
            }
            return false;
        }

        private boolean isSame(int one, int other, int size) {
            if (one < 0 || other < 0 || one + size > text.length || other + size > text.length) {
                return false;
            }
            for (int i = 0; i < size; i++) {
                if (text[one + i] != text[other + i]) {
                    return false;
                }
            }
            return true;
        }

        // The parts stand side by side; the last sign is moved first, so that none is written over.
        private int weave(int at, int[] starts, int parts, int prefix) {
            int end = parts > 0 ? starts[parts] : at;
            if (at < 0 || end + prefix + parts > text.length) {
                return -1;
            }
            for (int part = parts - 1; part >= 0; part--) {
                int from = starts[part];
                int to = from + prefix + Math.min(part + 1, parts - 1);
                for (int i = starts[part + 1] - from - 1; i >= 0; i--) {
                    text[to + i] = text[from + i];
                }
                if (part < parts - 1) {
                    text[to - 1] = '&';
                }
            }
            if (prefix == 3) {
                text[at] = '!';
            }
            text[at + prefix - 2] = '#';
            text[at + prefix - 1] = Signs.nameSign(game.laidPairs());
            return end + prefix + parts - 1;
        }

        private int writeTie(int at, boolean isSecondAhead) {
            int names = game.laidPairs();
            for (int kind = 0; kind < 3; kind++) {
                char sign = kind == 0 ? 'E' : kind == 1 ? 'F' : '=';
                for (int one = 0; one < names; one++) {
                    for (int other = 0; other < names; other++) {
                        boolean isAhead = isTied(sign, one, other, isSecondAhead);
                        if (isAhead != isTied(sign, one, other, !isSecondAhead)) {
                            return writeAtom(at, isAhead, sign, one, other);
                        }
                    }
                }
            }
            for (int kind = 0; kind < 2; kind++) {
                char sign = kind == 0 ? 'P' : 'Q';
                for (int one = 0; one < names; one++) {
                    boolean isAhead = isTied(sign, one, one, isSecondAhead);
                    if (isAhead != isTied(sign, one, one, !isSecondAhead)) {
                        return writeAtom(at, isAhead, sign, one, -1);
                    }
                }
            }
            return -1;
        }

        private boolean isTied(char sign, int one, int other, boolean isSecond) {
            return isSo(game.worldOf(isSecond), sign, game.laidThing(isSecond, one),
                    game.laidThing(isSecond, other));
        }

        private int writeAtom(int at, boolean isSo, char sign, int one, int other) {
            if (at < 0 || at + 4 > text.length) {
                return -1;
            }
            int end = at;
            if (!isSo) {
                text[end] = '!';
                end++;
            }
            text[end] = sign;
            text[end + 1] = Signs.nameSign(one);
            end += 2;
            if (other >= 0) {
                text[end] = Signs.nameSign(other);
                end++;
            }
            return end;
        }

        private static boolean isSo(World world, char sign, int one, int other) {
            if (one < 0 || one >= world.things || other < 0 || other >= world.things) {
                return false;
            }
            switch (sign) {
                case 'E':
                    return (world.steps[one] >>> other & 1) != 0;
                case 'F':
                    return (world.threads[one] >>> other & 1) != 0;
                case '=':
                    return one == other;
                case 'P':
                    return (world.markedP >>> one & 1) != 0;
                case 'Q':
                    return (world.markedQ >>> one & 1) != 0;
                default:
                    return false;
            }
        }

        // Whether the text told last holds in the first world alone, and is not bound deeper than the rounds.
        boolean isTrue(int rounds) {
            if (length < 1 || length > MOST_TOLD) {
                return false;
            }
            Signs.chart(text, length, ends, depths);
            return depths[0] <= rounds && isSaid(false) && !isSaid(true);
        }

        private boolean isSaid(boolean isSecond) {
            for (int at = 0; at < game.laidPairs() && at < values.length; at++) {
                values[at] = game.laidThing(isSecond, at);
            }
            return says(0, game.worldOf(isSecond), 0);
        }

        // A chain of & may be long, and is walked by the loop; the depth counts what is nested otherwise.
        private boolean says(int from, World world, int depth) {
            int at = from;
            for (int turn = 0; turn < MOST_TOLD && at >= 0 && at < length && at < MOST_TOLD; turn++) {
                int kind = Signs.kindOf(text[at]);
                if (depth >= MOST_OPEN || (kind != Signs.BOTH && kind != Signs.NOT && kind != Signs.BINDS)) {
                    return isSo(world, text[at], valueAt(at + 1), valueAt(at + 2));
                }
                if (kind == Signs.NOT) {
                    return !says(at + 1, world, depth + 1);
                }
                if (kind == Signs.BINDS) {
                    return saysOfSome(at, world, depth);
                }
                if (!says(at + 1, world, depth + 1)) {
                    return false;
                }
                at = Signs.pick(ends, at + 1, MOST_TOLD);
            }
            return false;
        }

        private boolean saysOfSome(int at, World world, int depth) {
            int name = at + 1 < length ? Signs.nameOf(text[at + 1]) : -1;
            if (name < 0) {
                return false;
            }
            for (int thing = 0; thing < world.things; thing++) {
                values[name] = thing;
                if (says(at + 2, world, depth + 1)) {
                    return true;
                }
            }
            return false;
        }

        private int valueAt(int at) {
            int name = at < length ? Signs.nameOf(text[at]) : -1;
            return name >= 0 ? values[name] : 0;
        }
    }

    /** Colours of the things, or pairs of things, of one world or of two, refined together. */
    private static final class Tints {
        private static final int MOST_ITEMS = 2 * MOST_THINGS * MOST_THINGS;
        private static final int WIDE = 4;
        private final int[] tints = new int[MOST_ITEMS];
        private final int[] fresh = new int[MOST_ITEMS];
        private final int[] leaders = new int[MOST_ITEMS];
        private final int[] balance = new int[MOST_ITEMS];
        private final long[] views = new long[MOST_ITEMS * WIDE];
        private final int[] codes = new int[MOST_THINGS];
        private World first = new World();
        // Null for a world by itself.
        private World second;
        private boolean arePairs;
        private int split;
        private int items;

        int countIn(World world, boolean ofPairs) {
            begin(world, null, ofPairs);
            return refine();
        }

        boolean areSame(World one, World other, boolean ofPairs) {
            if (one.things != other.things) {
                return false;
            }
            begin(one, other, ofPairs);
            refine();
            return isBalanced();
        }

        private void begin(World one, World other, boolean ofPairs) {
            first = one;
            second = other;
            arePairs = ofPairs;
            split = itemsOf(one);
            items = split + (other == null ? 0 : itemsOf(other));
            for (int item = 0; item < items && item < MOST_ITEMS; item++) {
                tints[item] = 0;
                viewAtFirst(item);
            }
        }

        private int itemsOf(World world) {
            return arePairs ? world.things * world.things : world.things;
        }

        // Worlds that are out of balance stay so, and need no more parting.
        private int refine() {
            int count = regroup();
            for (int turn = 0; turn < MOST_ITEMS && isBalanced(); turn++) {
                for (int item = 0; item < items; item++) {
                    view(item);
                }
                int next = regroup();
                if (next == count) {
                    return count;
                }
                count = next;
            }
            return count;
        }

        private boolean isBalanced() {
            if (second == null) {
                return true;
            }
            for (int tint = 0; tint < MOST_ITEMS; tint++) {
                balance[tint] = 0;
            }
            for (int item = 0; item < items; item++) {
                balance[tints[item]] += item < split ? 1 : -1;
            }
            for (int tint = 0; tint < MOST_ITEMS; tint++) {
                if (balance[tint] != 0) {
                    return false;
                }
            }
            return true;
        }

        private int regroup() {
            int count = 0;
            for (int item = 0; item < items; item++) {
                int tint = 0;
                while (tint < count && !isLike(leaders[tint], item)) {
                    tint++;
                }
                if (tint == count) {
                    leaders[count] = item;
                    count++;
                }
                fresh[item] = tint;
            }
            System.arraycopy(fresh, 0, tints, 0, items);
            return count;
        }

        private boolean isLike(int one, int other) {
            if (tints[one] != tints[other]) {
                return false;
            }
            for (int i = 0; i < WIDE; i++) {
                if (views[one * WIDE + i] != views[other * WIDE + i]) {
                    return false;
                }
            }
            return true;
        }

        private World worldOf(int item) {
            return item < split || second == null ? first : second;
        }

        private int startOf(int item) {
            return item < split ? 0 : split;
        }

        private void setView(int item, int at, long value) {
            views[item * WIDE + at] = value;
        }

        private void viewAtFirst(int item) {
            World world = worldOf(item);
            int inner = item - startOf(item);
            int a = arePairs && world.things > 0 ? inner / world.things : inner;
            int b = arePairs ? inner - a * world.things : inner;
            long seen = world.tieOf(a, b) | world.kindOf(a) << 5 | world.kindOf(b) << 9;
            setView(item, 0, seen);
            for (int at = 1; at < WIDE; at++) {
                setView(item, at, 0L);
            }
        }

        private void view(int item) {
            if (arePairs) {
                viewOfPair(item);
            } else {
                viewOfThing(item);
            }
        }

        private void viewOfThing(int item) {
            World world = worldOf(item);
            int start = startOf(item);
            int thing = item - start;
            if (thing < 0 || thing >= world.things) {
                return;
            }
            setView(item, 0, countsOf(world.steps[thing], start));
            setView(item, 1, countsOf(world.backOf(world.steps, thing), start));
            setView(item, 2, countsOf(world.threads[thing], start));
            setView(item, 3, countsOf(world.backOf(world.threads, thing), start));
        }

        // Four bits for each of at most twelve colours.
        private long countsOf(int things, int start) {
            long counts = 0L;
            for (int thing = 0; thing < MOST_THINGS; thing++) {
                counts += World.has(things, thing) ? 1L << 4 * tints[start + thing] : 0L;
            }
            return counts;
        }

        private void viewOfPair(int item) {
            World world = worldOf(item);
            int start = startOf(item);
            int wide = world.things;
            int a = wide > 0 ? (item - start) / wide : 0;
            int b = item - start - a * wide;
            for (int by = 0; by < MOST_THINGS; by++) {
                codes[by] = by >= wide ? 0
                        : 1 + tints[start + a * wide + by] * MOST_ITEMS + tints[start + by * wide + b];
            }
            sortCodes();
            setView(item, 0, packed(0));
            setView(item, 1, packed(3));
            setView(item, 2, 0L);
            setView(item, 3, 0L);
        }

        private long packed(int from) {
            return (long) codes[from] << 40 | (long) codes[from + 1] << 20 | codes[from + 2];
        }

        private void sortCodes() {
            for (int end = 1; end < MOST_THINGS; end++) {
                int code = codes[end];
                int at = end;
                while (at > 0 && codes[at - 1] > code) {
                    codes[at] = codes[at - 1];
                    at--;
                }
                codes[at] = code;
            }
        }
    }

    /** Counts the maps of a world, or of a product of two threes, into a part of another one. */
    private static final class Mapper {
        private final int[][] images = new int[World.ROOM + 1][World.ROOM];
        private final int[] backSteps = new int[World.ROOM];
        private final int[] backThreads = new int[World.ROOM];
        private final int[] starts = new int[World.ROOM];
        private World from = new World();
        private World into = from;
        private boolean isOneEnough;

        void begin(World one, World other) {
            from = one;
            into = other;
            for (int thing = 0; thing < other.things; thing++) {
                backSteps[thing] = other.backOf(other.steps, thing);
                backThreads[thing] = other.backOf(other.threads, thing);
            }
            for (int thing = 0; thing < one.things; thing++) {
                starts[thing] = imagesAtFirst(thing);
            }
        }

        private int imagesAtFirst(int thing) {
            int set = into.allThings();
            int kind = from.kindOf(thing);
            set &= (kind & 1) != 0 ? into.markedP : -1;
            set &= (kind & 2) != 0 ? into.markedQ : -1;
            set &= (kind & 4) != 0 ? into.loopsOf(into.steps) : -1;
            set &= (kind & 8) != 0 ? into.loopsOf(into.threads) : -1;
            return set;
        }

        int countInto(int things) {
            isOneEnough = false;
            return countWithin(things);
        }

        boolean isAnyInto(int things) {
            isOneEnough = true;
            return countWithin(things) > 0;
        }

        private int countWithin(int things) {
            for (int thing = 0; thing < from.things; thing++) {
                images[0][thing] = starts[thing] & things;
            }
            return countFrom(0);
        }

        // The images of the things below are chosen, and those of the others are what these leave.
        private int countFrom(int thing) {
            if (thing >= from.things || thing >= World.ROOM) {
                return 1;
            }
            if (!isTiedToLater(thing)) {
                System.arraycopy(images[thing], 0, images[thing + 1], 0, World.ROOM);
                int choices = Integer.bitCount(images[thing][thing]);
                return choices == 0 ? 0 : choices * countFrom(thing + 1);
            }
            int count = 0;
            for (int image = 0; image < into.things; image++) {
                if (World.has(images[thing][thing], image) && isLeftOver(thing, image)) {
                    count += countFrom(thing + 1);
                    if (isOneEnough && count > 0) {
                        return count;
                    }
                }
            }
            return count;
        }

        private boolean isTiedToLater(int thing) {
            int later = -(2 << thing);
            int tied = from.steps[thing] | from.threads[thing]
                    | from.backOf(from.steps, thing) | from.backOf(from.threads, thing);
            return (tied & later) != 0;
        }

        // Writes what is left for the later things; false if one of them has nothing left.
        private boolean isLeftOver(int thing, int image) {
            for (int later = thing + 1; later < from.things; later++) {
                int set = images[thing][later];
                set &= World.has(from.steps[thing], later) ? into.steps[image] : -1;
                set &= World.has(from.steps[later], thing) ? backSteps[image] : -1;
                set &= World.has(from.threads[thing], later) ? into.threads[image] : -1;
                set &= World.has(from.threads[later], thing) ? backThreads[image] : -1;
                if (set == 0) {
                    return false;
                }
                images[thing + 1][later] = set;
            }
            return true;
        }
    }
}
