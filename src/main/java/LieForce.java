/**
 * A policeman for each lie: a force that is made up of what people have said to it.
 * ../shared/DOC.md says what each call does and answers; its words in capitals are kept here.
 */
public final class LieForce {
    public static final int BAD = -1, NO = -2, FULL = -3, NONE = -4;

    private static final String FIRST_TEXT =
        "f0;f2;f5;s0,1,0,0;s1,0,3,1;s2,7,4,2;s3,0,1,0;s4,2,5,3;s1,4,1,1;s0,10,0,4;s3,2,8,2;r3;";

    private static final int MOST_LETTERS = 200, LOWEST_LETTER = 32, HIGHEST_LETTER = 126;
    private static final int FACTS = 6, LITERALS = 12, WORLDS = 64;
    private static final int MOST_SAYINGS = 9, PERSONS = 6;
    private static final int PLAIN = 0, BOTH = 1, EITHER = 2, IF = 3, UNLIKE = 4;
    private static final int USUAL_TERM = 5, LONGEST_TERM = 20;
    private static final int MOST_DAYS = 30, FARTHEST_DAY = 60;
    private static final int MOST_UNDONE = 8, MOST_KEPT = 2, MOST_SEEN = 6;
    private static final int MOST_TURNS = 4, HIGHEST_YEAR = 9999, TENTHS = 10;
    private static final long EVERY_WORLD = -1L;

    /** For each FACT the worlds it is so in: bit w stands for the FACTS w. */
    private static final long[] WORLDS_OF_FACT = {
        0xAAAAAAAAAAAAAAAAL, 0xCCCCCCCCCCCCCCCCL, 0xF0F0F0F0F0F0F0F0L,
        0xFF00FF00FF00FF00L, 0xFFFF0000FFFF0000L, 0xFFFFFFFF00000000L
    };

    private final char[] letters = new char[MOST_LETTERS];
    private int length;
    private final Reader reader = new Reader();
    private final Force now = firstForce();
    // What comes is tried on a force of its own, so that nothing of it stays.
    private final Force ahead = new Force();
    private final Pile undoable = new Pile(MOST_UNDONE);
    private final Pile kept = new Pile(MOST_KEPT);
    private final Sight sight = new Sight();
    private final Game game = new Game();

    public LieForce() {
    }

    private static Force firstForce() {
        Force first = new Force();
        char[] text = FIRST_TEXT.toCharArray();
        new Reader().read(text, text.length, first);
        return first;
    }

    // ---- forces

    public int write(int letter) {
        if (!isWithin(letter, LOWEST_LETTER, HIGHEST_LETTER)) return BAD;
        if (length >= MOST_LETTERS) return FULL;
        letters[length] = (char) letter;
        length++;
        return length;
    }

    public int wipe() {
        int was = length;
        length = 0;
        return was;
    }

    public int fault() {
        return reader.read(letters, length, ahead);
    }

    public int lay() {
        if (reader.read(letters, length, ahead) != NONE || ahead.sayings == 0) return NO;
        now.copy(ahead);
        undoable.clear();
        kept.clear();
        sight.clear();
        return now.sayings;
    }

    public int saying(int s, int what) {
        if (!now.isThere(s)) return BAD;
        switch (what) {
            case 0: return now.kinds[s];
            case 1: return now.firsts[s];
            case 2: return now.kinds[s] == PLAIN ? NONE : now.seconds[s];
            case 3: return now.persons[s];
            case 4: return asNumber(now.isSoIn(s, now.facts));
            case 5: return asNumber(now.isWithdrawn(s));
            case 6: return now.hasPoliceman(s) ? now.served[s] : NONE;
            default: return BAD;
        }
    }

    public int fact(int f) {
        if (!isFact(f)) return BAD;
        return (now.facts >> f) & 1;
    }

    public int clash(int s, int t) {
        if (!now.isThere(s) || !now.isThere(t) || s == t) return BAD;
        return asNumber(now.areClashing(s, t));
    }

    // ---- days

    public int pass(int n) {
        if (!isWithin(n, 1, MOST_DAYS)) return BAD;
        undoable.add(now);
        for (int day = 0; day < n; day++) now.passDay();
        return now.days;
    }

    public int say(int kind, int a, int b, int person) {
        int second = kind == PLAIN ? 0 : b;
        if (!isSaying(kind, a, second, person)) return BAD;
        if (now.sayings >= MOST_SAYINGS) return FULL;
        undoable.add(now);
        return now.addSaying(kind, a, second, person);
    }

    public int withdraw(int s) {
        if (!now.isThere(s)) return BAD;
        if (!now.canBeWithdrawn(s)) return NO;
        undoable.add(now);
        now.takeOut(s);
        return now.policemen();
    }

    public int turn(int f) {
        if (!isFact(f)) return BAD;
        undoable.add(now);
        now.turnFact(f);
        return now.policemen();
    }

    public int undo() {
        if (!undoable.takeLast(now)) return NO;
        return undoable.size;
    }

    // ---- what comes

    public int behind(int n) {
        if (!isWithin(n, 0, FARTHEST_DAY)) return BAD;
        ahead.copy(now);
        for (int day = 0; day < n; day++) ahead.passDay();
        return ahead.liesIn(ahead.facts);
    }

    public int fall(int what) {
        if (!isWithin(what, 0, 1)) return BAD;
        ahead.copy(now);
        for (int day = 1; day <= FARTHEST_DAY; day++) {
            ahead.serveDay();
            int lower = ahead.firstToFall();
            if (lower != NONE) return what == 1 ? day : 10 * lower + ahead.mateOf(lower);
        }
        return NONE;
    }

    public int core() {
        return now.lowestCore();
    }

    public int cut() {
        return now.lowestCut();
    }

    public int truest(int what) {
        if (!isWithin(what, 0, 1)) return BAD;
        int most = -1;
        int lowest = 0;
        for (int world = 0; world < WORLDS; world++) {
            int so = now.soAtOnce(world);
            if (so > most) {
                most = so;
                lowest = world;
            }
        }
        return what == 0 ? most : lowest;
    }

    public int married() {
        return mostPairs(now, now.liesIn(now.facts), 0);
    }

    public int trial(int n, int what) {
        if (!isWithin(n, 1, MOST_TURNS) || !isWithin(what, 0, 1)) return BAD;
        game.lookAhead(now, n);
        return what == 0 ? game.outcome(now.facts) : game.firstMove(now.facts);
    }

    // ---- what was seen

    public int see(int s, boolean has) {
        if (!now.isThere(s)) return BAD;
        return sight.add(s, has);
    }

    public int forget() {
        int were = sight.size;
        sight.clear();
        return were;
    }

    public int worlds(int what) {
        if (!isWithin(what, 0, 1)) return BAD;
        long worlds = sight.worldsAsSeen(now);
        return what == 0 ? Long.bitCount(worlds) : lowestWorld(worlds);
    }

    public int must(int f) {
        if (!isFact(f)) return BAD;
        long worlds = sight.worldsAsSeen(now);
        if (worlds == 0L) return NONE;
        long so = worlds & worldsOfLiteral(f);
        if (so == worlds) return 1;
        return so == 0L ? 0 : 2;
    }

    public int liars(int what) {
        if (!isWithin(what, 0, 1)) return BAD;
        long worlds = sight.worldsAsSeen(now);
        int fewest = PERSONS + 1;
        int lowest = NONE;
        for (int world = 0; world < WORLDS; world++) {
            int liars = now.liarsIn(world);
            if (isAmong(worlds, world) && liars < fewest) {
                fewest = liars;
                lowest = world;
            }
        }
        if (lowest == NONE) return NONE;
        return what == 0 ? fewest : lowest;
    }

    // ---- mornings, years

    public int chance(int k, int x, int part) {
        if (!isWithin(k, 0, MOST_SAYINGS) || !isWithin(x, 0, TENTHS) || !isWithin(part, 0, 1)) return BAD;
        int above = 0;
        for (int turned = 0; turned < WORLDS; turned++) {
            if (Integer.bitCount(now.liesIn(now.facts ^ turned)) >= k) above += waysToTurn(turned, x);
        }
        int below = power(TENTHS, FACTS);
        int divisor = commonDivisor(above, below);
        if (divisor == 0) return NONE;
        return part == 0 ? above / divisor : below / divisor;
    }

    public int year(int z, int n, int what) {
        if (!isWithin(z, 0, HIGHEST_YEAR) || !isWithin(n, 1, FARTHEST_DAY) || !isWithin(what, 0, 1)) return BAD;
        ahead.copy(now);
        int fallen = 0;
        for (int k = 0; k < n; k++) {
            ahead.takeDraw(draw(z, k));
            fallen += ahead.passDay();
        }
        return what == 0 ? ahead.policemen() : fallen;
    }

    public int keep() {
        if (kept.size >= MOST_KEPT) return FULL;
        kept.add(now);
        return kept.size;
    }

    public int back() {
        if (!kept.takeLast(now)) return NO;
        undoable.clear();
        return kept.size;
    }

    public int count(int what) {
        switch (what) {
            case 0: return now.sayings;
            case 1: return Integer.bitCount(now.withdrawn);
            case 2: return now.policemen();
            case 3: return now.policemenWhoServed();
            case 4: return now.days;
            case 5: return Integer.bitCount(now.facts);
            case 6: return sight.size;
            case 7: return undoable.size;
            case 8: return kept.size;
            case 9: return length;
            default: return BAD;
        }
    }

    // ---- numbers

    private static boolean isWithin(int number, int lowest, int highest) {
        return number >= lowest && number <= highest;
    }

    private static boolean isFact(int f) {
        return isWithin(f, 0, FACTS - 1);
    }

    private static boolean isLiteral(int literal) {
        return isWithin(literal, 0, LITERALS - 1);
    }

    private static boolean isSaying(int kind, int a, int b, int person) {
        return isWithin(kind, PLAIN, UNLIKE) && isLiteral(a) && isLiteral(b) && isWithin(person, 0, PERSONS - 1);
    }

    private static int asNumber(boolean is) {
        return is ? 1 : 0;
    }

    private static boolean isBitOf(int bits, int number) {
        return ((bits >> number) & 1) == 1;
    }

    private static int power(int base, int times) {
        int product = 1;
        for (int i = 0; i < times; i++) product *= base;
        return product;
    }

    /** How many of a million mornings turn just these FACTS, if each one TURNS by x of ten. */
    private static int waysToTurn(int turned, int x) {
        int turns = Integer.bitCount(turned);
        return power(x, turns) * power(TENTHS - x, FACTS - turns);
    }

    private static int commonDivisor(int a, int b) {
        int left = a;
        int right = b;
        // Euclid's remainders halve in two steps: an int needs far fewer than these.
        for (int step = 0; step < 100 && right != 0; step++) {
            int rest = left % right;
            left = right;
            right = rest;
        }
        return left;
    }

    /** The DRAW ahead of DAY k of the YEAR z; x is too big for an int, once it is squared. */
    private static int draw(int z, int k) {
        long x = 7919L * z + 6151L * k + 1L;
        return (int) (x * x % 65521L);
    }

    // ---- worlds: sets of FACTS, a bit for each

    private static long worldsOfLiteral(int literal) {
        if (literal < 0 || literal >= LITERALS) return 0L;
        return literal < FACTS ? WORLDS_OF_FACT[literal] : ~WORLDS_OF_FACT[literal - FACTS];
    }

    private static long worldsOfSaying(int kind, int a, int b) {
        long first = worldsOfLiteral(a);
        long second = worldsOfLiteral(b);
        switch (kind) {
            case BOTH: return first & second;
            case EITHER: return first | second;
            case IF: return ~first | second;
            case UNLIKE: return first ^ second;
            default: return first;
        }
    }

    private static boolean isAmong(long worlds, int world) {
        return ((worlds >>> world) & 1L) == 1L;
    }

    private static int lowestWorld(long worlds) {
        for (int world = 0; world < WORLDS; world++) {
            if (isAmong(worlds, world)) return world;
        }
        return NONE;
    }

    // ---- pairs

    /** The most pairs among the free ones from s on; s, one more at each level, bounds the depth. */
    private static int mostPairs(Force force, int free, int s) {
        if (s >= force.sayings || s >= MOST_SAYINGS) return 0;
        int most = mostPairs(force, free, s + 1);
        if (!isBitOf(free, s)) return most;
        for (int t = s + 1; t < force.sayings; t++) {
            if (isBitOf(free, t) && force.mayMarry(s, t)) {
                most = Math.max(most, 1 + mostPairs(force, free & ~(1 << t), s + 1));
            }
        }
        return most;
    }

    /** A force as it stands at one time: all that can be UNDONE, and that is KEPT. */
    private static final class Force {
        int facts;
        int sayings;
        int withdrawn;
        int days;
        int term = USUAL_TERM;
        final int[] kinds = new int[MOST_SAYINGS];
        final int[] firsts = new int[MOST_SAYINGS];
        final int[] seconds = new int[MOST_SAYINGS];
        final int[] persons = new int[MOST_SAYINGS];
        // 0 for a SAYING that has no POLICEMAN, so that a new one starts there.
        final int[] served = new int[MOST_SAYINGS];
        final long[] soWorlds = new long[MOST_SAYINGS];

        void empty() {
            facts = 0;
            sayings = 0;
            withdrawn = 0;
            days = 0;
            term = USUAL_TERM;
        }

        void copy(Force other) {
            facts = other.facts;
            sayings = other.sayings;
            withdrawn = other.withdrawn;
            days = other.days;
            term = other.term;
            for (int s = 0; s < MOST_SAYINGS; s++) {
                kinds[s] = other.kinds[s];
                firsts[s] = other.firsts[s];
                seconds[s] = other.seconds[s];
                persons[s] = other.persons[s];
                served[s] = other.served[s];
                soWorlds[s] = other.soWorlds[s];
            }
        }

        int addSaying(int kind, int a, int b, int person) {
            if (sayings >= MOST_SAYINGS) return FULL;
            int s = sayings;
            kinds[s] = kind;
            firsts[s] = a;
            seconds[s] = b;
            persons[s] = person;
            served[s] = 0;
            soWorlds[s] = worldsOfSaying(kind, a, b);
            sayings++;
            return s;
        }

        boolean isThere(int s) {
            return s >= 0 && s < sayings && s < MOST_SAYINGS;
        }

        boolean isWithdrawn(int s) {
            return ((withdrawn >> s) & 1) == 1;
        }

        boolean isSoIn(int s, int world) {
            return isThere(s) && isAmong(soWorlds[s], world);
        }

        boolean hasPoliceman(int s) {
            return isThere(s) && !isWithdrawn(s) && !isAmong(soWorlds[s], facts);
        }

        boolean hasServed(int s) {
            return isThere(s) && hasPoliceman(s) && served[s] >= term;
        }

        boolean canBeWithdrawn(int s) {
            return isThere(s) && !isWithdrawn(s) && !hasServed(s);
        }

        boolean areClashing(int s, int t) {
            return isThere(s) && isThere(t) && (soWorlds[s] & soWorlds[t]) == 0L;
        }

        boolean mayMarry(int s, int t) {
            return isThere(s) && isThere(t) && persons[s] != persons[t] && !areClashing(s, t);
        }

        /** The SAYINGS, as bits, that are not WITHDRAWN. */
        int standing() {
            return ((1 << sayings) - 1) & ~withdrawn;
        }

        /** The SAYINGS, as bits, that would have a POLICEMAN by these FACTS. */
        int liesIn(int world) {
            int lies = 0;
            for (int s = 0; s < sayings; s++) {
                if (!isWithdrawn(s) && !isSoIn(s, world)) lies |= 1 << s;
            }
            return lies;
        }

        int soAtOnce(int world) {
            return Integer.bitCount(standing() & ~liesIn(world));
        }

        int liarsIn(int world) {
            int lies = liesIn(world);
            int liars = 0;
            for (int s = 0; s < sayings; s++) {
                if (isThere(s) && isBitOf(lies, s)) liars |= 1 << persons[s];
            }
            return Integer.bitCount(liars);
        }

        /** The worlds in which a SAYING has a POLICEMAN: none for one that is not there. */
        long policedWorlds(int s) {
            return !isThere(s) || isWithdrawn(s) ? 0L : ~soWorlds[s];
        }

        int policemen() {
            return Integer.bitCount(liesIn(facts));
        }

        int policemenWhoServed() {
            int who = 0;
            for (int s = 0; s < sayings; s++) who += asNumber(hasServed(s));
            return who;
        }

        void takeOut(int s) {
            if (!isThere(s)) return;
            withdrawn |= 1 << s;
            served[s] = 0;
        }

        void turnFact(int f) {
            if (!isFact(f)) return;
            facts ^= 1 << f;
            for (int s = 0; s < sayings; s++) {
                if (isThere(s) && !hasPoliceman(s)) served[s] = 0;
            }
        }

        void serveDay() {
            days++;
            for (int s = 0; s < sayings; s++) {
                if (isThere(s) && hasPoliceman(s)) served[s]++;
            }
        }

        /** The lowest one above s with whom s FALLS THROUGH as they stand. */
        int mateOf(int s) {
            if (!hasServed(s)) return NONE;
            for (int t = s + 1; t < sayings; t++) {
                if (hasServed(t) && areClashing(s, t)) return t;
            }
            return NONE;
        }

        int firstToFall() {
            for (int s = 0; s < sayings; s++) {
                if (mateOf(s) != NONE) return s;
            }
            return NONE;
        }

        /** A DAY goes by: how many POLICEMEN FALL THROUGH on it. */
        int passDay() {
            serveDay();
            int fallen = 0;
            for (int s = 0; s < sayings; s++) {
                int mate = mateOf(s);
                if (mate != NONE) {
                    takeOut(s);
                    takeOut(mate);
                    fallen += 2;
                }
            }
            return fallen;
        }

        void takeDraw(int draw) {
            if (draw / 8 % 3 == 0) turnFact(draw % FACTS);
            if (sayings <= 0) return;
            int s = draw / 64 % sayings;
            if (draw / 1024 % 5 == 0 && canBeWithdrawn(s)) takeOut(s);
        }

        boolean couldAllBeSo(int set) {
            long worlds = EVERY_WORLD;
            for (int s = 0; s < sayings; s++) {
                if (isThere(s) && isBitOf(set, s)) worlds &= soWorlds[s];
            }
            return worlds != 0L;
        }

        int lowestCore() {
            int all = standing();
            int core = NONE;
            int fewest = MOST_SAYINGS + 1;
            // Sets come by their bits upward, so the first of its size is the lowest.
            for (int set = 0; set <= all; set++) {
                int size = Integer.bitCount(set);
                if ((set & ~all) == 0 && size < fewest && !couldAllBeSo(set)) {
                    core = set;
                    fewest = size;
                }
            }
            return core;
        }

        int lowestCut() {
            int all = standing();
            int cut = all;
            int fewest = MOST_SAYINGS + 1;
            for (int set = 0; set <= all; set++) {
                int size = Integer.bitCount(set);
                if ((set & ~all) == 0 && size < fewest && couldAllBeSo(all & ~set)) {
                    cut = set;
                    fewest = size;
                }
            }
            return cut;
        }
    }

    /** Forces as they stood, the last one to be taken first; its rows are made once and used again. */
    private static final class Pile {
        final Force[] stood;
        int size;

        Pile(int room) {
            stood = new Force[room < 0 ? 0 : room];
            for (int i = 0; i < stood.length; i++) stood[i] = new Force();
        }

        void clear() {
            size = 0;
        }

        /** The oldest one goes where there is no room left. */
        void add(Force force) {
            if (stood.length == 0) return;
            if (size >= stood.length) dropOldest();
            stood[size].copy(force);
            size++;
        }

        void dropOldest() {
            int last = stood.length - 1;
            if (last < 0) return;
            Force oldest = stood[0];
            for (int i = 0; i < last; i++) stood[i] = stood[i + 1];
            stood[last] = oldest;
            size = last;
        }

        boolean takeLast(Force into) {
            if (size <= 0 || size > stood.length) return false;
            size--;
            into.copy(stood[size]);
            return true;
        }
    }

    /** What is SEEN, by the numbers of SAYINGS: the force itself may change behind it. */
    private static final class Sight {
        final int[] seen = new int[MOST_SEEN];
        final boolean[] has = new boolean[MOST_SEEN];
        int size;

        void clear() {
            size = 0;
        }

        int add(int s, boolean hasPoliceman) {
            if (size >= MOST_SEEN) return FULL;
            seen[size] = s;
            has[size] = hasPoliceman;
            size++;
            return size;
        }

        long worldsAsSeen(Force force) {
            long worlds = EVERY_WORLD;
            for (int i = 0; i < size && i < MOST_SEEN; i++) {
                long policed = force.policedWorlds(seen[i]);
                worlds &= has[i] ? policed : ~policed;
            }
            return worlds;
        }
    }

    /** The TRIAL: how many POLICEMEN there will be from each world, by so many turns ahead. */
    private static final class Game {
        final int[] behindTurn = new int[WORLDS];
        final int[] best = new int[WORLDS];

        /** Worked out from the end: best is the worth of each world with n turns left, behindTurn with one fewer. */
        void lookAhead(Force force, int n) {
            for (int world = 0; world < WORLDS; world++) {
                best[world] = Integer.bitCount(force.liesIn(world));
            }
            for (int left = 1; left <= n; left++) {
                for (int world = 0; world < WORLDS; world++) behindTurn[world] = best[world];
                boolean isFirstOnes = (n - left) % 2 == 0;
                for (int world = 0; world < WORLDS; world++) best[world] = bestOf(world, isFirstOnes);
            }
        }

        private int bestOf(int world, boolean isFirstOnes) {
            int found = worth(world);
            for (int f = 0; f < FACTS; f++) {
                int other = worth(world ^ (1 << f));
                found = isFirstOnes ? Math.max(found, other) : Math.min(found, other);
            }
            return found;
        }

        private int worth(int world) {
            return isWithin(world, 0, WORLDS - 1) ? behindTurn[world] : 0;
        }

        int outcome(int world) {
            return isWithin(world, 0, WORLDS - 1) ? best[world] : 0;
        }

        int firstMove(int world) {
            int wanted = outcome(world);
            if (worth(world) == wanted) return NONE;
            for (int f = 0; f < FACTS; f++) {
                if (worth(world ^ (1 << f)) == wanted) return f;
            }
            return NONE;
        }
    }

    /** Reads a TEXT, ITEM by ITEM, into a force. */
    private static final class Reader {
        private static final int MOST_NUMBERS = 4;

        final int[] numbers = new int[MOST_NUMBERS];

        /** FAULT; the force is what the ITEMS ahead of it tell. */
        int read(char[] letters, int length, Force force) {
            force.empty();
            int place = 0;
            for (int item = 0; item < MOST_LETTERS && place < length; item++) {
                int letter = letterAt(letters, length, place);
                int end = readNumbers(letters, length, place + 1, numbersOf(letter));
                if (end == NONE || !putItem(letter, force)) return place;
                place = end;
            }
            return NONE;
        }

        /** Takes as many numbers as are due from this place on: where their ITEM has its end; NONE. */
        private int readNumbers(char[] letters, int length, int place, int due) {
            int at = place;
            for (int i = 0; i < due && i < MOST_NUMBERS; i++) {
                int figures = figuresAt(letters, length, at);
                if (figures == 0) return NONE;
                numbers[i] = numberOf(letters, length, at, figures);
                at += figures;
                if (letterAt(letters, length, at) != (i + 1 < due ? ',' : ';')) return NONE;
                at++;
            }
            return due == 0 ? NONE : at;
        }

        private static int numbersOf(int letter) {
            if (letter == 's') return MOST_NUMBERS;
            return letter == 'f' || letter == 'r' ? 1 : 0;
        }

        private static int letterAt(char[] letters, int length, int at) {
            return at >= 0 && at < length && at < letters.length ? letters[at] : NONE;
        }

        private static boolean isFigure(int letter) {
            return letter >= '0' && letter <= '9';
        }

        /** How many figures a number here has: none, one or two; a third one is no part of it. */
        private static int figuresAt(char[] letters, int length, int at) {
            if (!isFigure(letterAt(letters, length, at))) return 0;
            return isFigure(letterAt(letters, length, at + 1)) ? 2 : 1;
        }

        private static int numberOf(char[] letters, int length, int at, int figures) {
            int first = letterAt(letters, length, at) - '0';
            return figures == 1 ? first : 10 * first + letterAt(letters, length, at + 1) - '0';
        }

        /** Tells the force what the ITEM with these numbers says; false if that can not be. */
        private boolean putItem(int letter, Force force) {
            if (letter == 'f') {
                force.turnFact(numbers[0]);
                return isFact(numbers[0]);
            }
            if (letter == 'r') {
                force.term = numbers[0];
                return isWithin(numbers[0], 1, LONGEST_TERM);
            }
            return isSaying(numbers[0], numbers[1], numbers[2], numbers[3])
                && force.addSaying(numbers[0], numbers[1], numbers[2], numbers[3]) != FULL;
        }
    }
}
