import java.util.Arrays;

/** A museum that is robbed by rota; what it must do stands in DOC.md, as numbered promises. */
public final class RotaMuseum {
    public static final int NONE = -1;

    private static final int MOST_BYTES = 1600;
    private static final int BYTES_FED = 20;
    private static final int MOST_THINGS = 8;
    private static final int MOST_GANGS = 6;
    private static final int MOST_VISITORS = 6;
    private static final int MOST_TURNS = 12;
    private static final int MOST_LETTERS = 6;
    private static final int LAST_NIGHT = 9999;
    private static final int MOST_SINCE = 999;
    private static final int MOST_AHEAD = 60;
    private static final int MOST_GOING_BY = 100;
    private static final int MOST_BEST = 4;
    private static final int MOST_ROWS = 16;
    private static final int MOST_ACTS = 20;
    private static final int MOST_TOLD = 60;

    private static final int THINGS = 0;
    private static final int GANGS = 1;
    private static final int VISITORS = 2;
    private static final int KINDS = 3;

    private static final int HANGS_HERE = 0;
    private static final int STOLEN = 255;

    private static final int OF_TAPE = 0;
    private static final int OF_TOWN = 1;
    private static final int OF_NIGHTS = 2;
    private static final int OF_THINGS = 3;
    private static final int OF_UNDO = 4;
    private static final int OF_OTHERS = 5;

    private final byte[] tape = new byte[MOST_BYTES];
    private int tapeLength = 0;
    private final int[] refused = new int[OF_OTHERS + 1];
    private int faultKind = 0;
    private int faultPlace = NONE;
    private Town city = new Town();
    private Town spare = new Town();
    private final TownReader reader = new TownReader(tape, spare);
    private final Scene scene = new Scene();
    private final Scene ahead = new Scene();
    private final Judge judge = new Judge(city);
    private final Game game = new Game(judge);
    private final Orders orders = new Orders(judge);
    private final Past past = new Past();
    private int seedNow = 1;
    private final int[] seenOn = new int[MOST_AHEAD + 1];
    private int seenCount = 0;
    private final int[] picture = new int[3 + 3 * MOST_THINGS];
    private int pictureLength = 0;

    public RotaMuseum() {
    }

    // ---- the tape, the town

    public int feed(int a, int b, int c, int d, int e) {
        if (tapeLength + BYTES_FED > MOST_BYTES) {
            return refusedNumber(OF_TAPE);
        }
        putNumber(a);
        putNumber(b);
        putNumber(c);
        putNumber(d);
        putNumber(e);
        return tapeLength;
    }

    private void putNumber(int number) {
        for (int shift = 24; shift >= 0 && tapeLength < MOST_BYTES; shift -= 8) {
            tape[tapeLength] = (byte) (number >>> shift);
            tapeLength++;
        }
    }

    public boolean end(int n) {
        if (n < 0 || n > tapeLength) {
            return refusedAct(OF_TAPE);
        }
        tapeLength = n;
        return true;
    }

    public int town() {
        boolean stands = reader.read(spare, tapeLength);
        tapeLength = 0;
        faultKind = reader.faultKind();
        faultPlace = reader.faultPlace();
        if (!stands) {
            return refusedNumber(OF_TOWN);
        }
        Town former = city;
        city = spare;
        spare = former;
        judge.town = city;
        scene.begin(city);
        seenCount = 0;
        past.forget();
        sceneChanged();
        return city.statements;
    }

    public int fault(int what) {
        if (what == 0) {
            return faultKind;
        }
        return what == 1 ? faultPlace : NONE;
    }

    // ---- what there is

    public int has(int what) {
        switch (what) {
            case 0:
                return city.counts[THINGS];
            case 1:
                return city.counts[GANGS];
            case 2:
                return city.counts[VISITORS];
            case 3:
                return scene.night;
            case 4:
                return city.turns;
            case 5:
                return Integer.bitCount(scene.placedAt(HANGS_HERE, city));
            case 6:
                return scene.worthHanging(city);
            case 7:
                return Integer.bitCount(scene.placedAt(STOLEN, city));
            case 8:
                return past.toldCount();
            case 9:
                return past.acts;
            case 10:
                return seedNow;
            default:
                return NONE;
        }
    }

    public int letter(int kind, int which, int k) {
        if (!city.holds(kind, which) || k < 0 || k >= MOST_LETTERS) {
            return NONE;
        }
        return Lexer.letterOf(city.nameOf(kind, which), k);
    }

    public int thing(int thing, int what) {
        if (!city.holds(THINGS, thing)) {
            return NONE;
        }
        switch (what) {
            case 0:
                return city.worth[thing];
            case 1:
                return city.hangs[thing];
            case 2:
                return scene.where[thing];
            case 3:
                return scene.since[thing];
            default:
                return NONE;
        }
    }

    public int gang(int gang, int what) {
        if (!city.holds(GANGS, gang)) {
            return NONE;
        }
        switch (what) {
            case 0:
                return city.homes[gang];
            case 1:
                return scene.placedAt(gang + 1, city);
            case 2:
                return judge.canTake(scene, gang);
            case 3:
                return city.turnsOf(gang);
            default:
                return what >= 10 && city.holds(THINGS, what - 10) ? city.wanted(gang, what - 10) : NONE;
        }
    }

    public int turn(int k) {
        return k >= 0 && k < city.turns ? city.rota[k] : NONE;
    }

    // ---- ahead

    public int later(int n, int what) {
        boolean isThing = city.holds(THINGS, what);
        if (n < 0 || n > nightsAhead() || !isThing && what != 10) {
            return NONE;
        }
        ahead.become(scene);
        for (int i = 0; i < n; i++) {
            judge.goBy(ahead);
        }
        return isThing ? ahead.where[what] : ahead.worthHanging(city);
    }

    public int idle() {
        int most = nightsAhead();
        ahead.become(scene);
        for (int i = 1; i <= most; i++) {
            if (judge.goBy(ahead) == NONE) {
                return i;
            }
        }
        return NONE;
    }

    public int best(int n, int what) {
        if (n < 1 || n > MOST_BEST || n > nightsAhead() || city.turns == 0 || what < 0 || what > 1) {
            return NONE;
        }
        game.solve(scene, n);
        return what == 0 ? game.thing : game.worth;
    }

    public int rota(int n, int k) {
        int gangs = city.counts[GANGS];
        if (n < 1 || n > nightsAhead() || gangs == 0 || k < NONE || k >= gangs) {
            return NONE;
        }
        orders.solve(scene, n);
        return k == NONE ? orders.mostWorth : orders.mostOrder[k];
    }

    private int nightsAhead() {
        return Math.min(MOST_AHEAD, LAST_NIGHT - scene.night);
    }

    // ---- visitors, who waits for whom

    public int sees(int visitor) {
        if (!city.holds(VISITORS, visitor)) {
            return NONE;
        }
        int sights = city.sights[visitor];
        int most = nightsAhead();
        ahead.become(scene);
        for (int i = 0; i <= most; i++) {
            if ((ahead.placedAt(HANGS_HERE, city) & sights) == sights) {
                return i;
            }
            judge.goBy(ahead);
        }
        return NONE;
    }

    public int way(int visitor) {
        if (!city.holds(VISITORS, visitor)) {
            return NONE;
        }
        int low = city.place;
        int high = city.place;
        for (int gang = 0; gang < city.counts[GANGS]; gang++) {
            if ((scene.placedAt(gang + 1, city) & city.sights[visitor]) != 0) {
                low = Math.min(low, city.homes[gang]);
                high = Math.max(high, city.homes[gang]);
            }
        }
        // The shorter side is gone twice: there, and back past the museum.
        return high - low + Math.min(high - city.place, city.place - low);
    }

    public int waits(int gang, int what) {
        if (!city.holds(GANGS, gang)) {
            return NONE;
        }
        switch (what) {
            case 0:
                return ownerWaitedFor(gang);
            case 1:
                return thingWaitedFor(gang);
            case 2:
                return ringOf(gang);
            default:
                return NONE;
        }
    }

    private int thingWaitedFor(int gang) {
        int most = 0;
        int found = NONE;
        for (int thing = 0; thing < city.counts[THINGS]; thing++) {
            int owner = scene.ownerOf(thing);
            if (owner != NONE && owner != gang && city.wanted(gang, thing) > most) {
                most = city.wanted(gang, thing);
                found = thing;
            }
        }
        return found;
    }

    private int ownerWaitedFor(int gang) {
        int thing = thingWaitedFor(gang);
        return thing == NONE ? NONE : scene.ownerOf(thing);
    }

    private int ringOf(int gang) {
        int at = gang;
        for (int steps = 1; steps <= city.counts[GANGS]; steps++) {
            at = ownerWaitedFor(at);
            if (at == NONE) {
                return 0;
            }
            if (at == gang) {
                return steps;
            }
        }
        return 0;
    }

    // ---- what was seen, who lies

    public int looked() {
        int length = takeTape();
        if (!areRows(length, 2)) {
            return refusedNumber(OF_OTHERS);
        }
        int hanging = 0;
        int missing = 0;
        for (int at = 0; at + 1 < length; at += 2) {
            int thing = byteOfTape(at);
            int told = byteOfTape(at + 1);
            if (!city.holds(THINGS, thing) || told > 1) {
                return refusedNumber(OF_OTHERS);
            }
            hanging |= told << thing;
            missing |= (1 - told) << thing;
        }
        findNightsSeen(hanging, missing);
        return seenCount;
    }

    private void findNightsSeen(int hanging, int missing) {
        int most = nightsAhead();
        seenCount = 0;
        ahead.become(scene);
        for (int i = 0; i <= most && i < seenOn.length; i++) {
            int walls = ahead.placedAt(HANGS_HERE, city);
            if ((walls & hanging) == hanging && (walls & missing) == 0) {
                seenOn[seenCount] = i;
                seenCount++;
            }
            judge.goBy(ahead);
        }
    }

    public int when(int k) {
        return k >= 0 && k < seenCount ? seenOn[k] : NONE;
    }

    public int lies() {
        int length = takeTape();
        if (!areRows(length, 3)) {
            return refusedNumber(OF_OTHERS);
        }
        int liars = 0;
        for (int at = 0; at + 2 < length; at += 3) {
            int gang = byteOfTape(at);
            int thing = byteOfTape(at + 1);
            int told = byteOfTape(at + 2);
            if (!city.holds(GANGS, gang) || !city.holds(THINGS, thing) || told > 1) {
                return refusedNumber(OF_OTHERS);
            }
            boolean owns = scene.ownerOf(thing) == gang;
            if (owns != (told == 1)) {
                liars |= 1 << gang;
            }
        }
        return Integer.bitCount(liars);
    }

    private int takeTape() {
        int length = tapeLength;
        tapeLength = 0;
        return length;
    }

    private int byteOfTape(int at) {
        return at >= 0 && at < MOST_BYTES ? tape[at] & 255 : 0;
    }

    private static boolean areRows(int length, int size) {
        return length >= size && length <= MOST_ROWS * size && length % size == 0;
    }

    // ---- acts

    public int nights(int n) {
        if (!canGoBy(n)) {
            return refusedNumber(OF_NIGHTS);
        }
        past.remember(scene);
        int taken = 0;
        for (int i = 0; i < n; i++) {
            taken += keepNight(city.turnOn(scene.night));
        }
        sceneChanged();
        return taken;
    }

    public int chance(int n) {
        if (!canGoBy(n)) {
            return refusedNumber(OF_NIGHTS);
        }
        past.remember(scene);
        int quarrels = 0;
        for (int i = 0; i < n; i++) {
            int gang = city.turnOn(scene.night);
            if (gang != NONE && drawOf(100) < city.quarrel) {
                quarrels++;
                gang = NONE;
            }
            keepNight(gang);
        }
        sceneChanged();
        return quarrels;
    }

    private boolean canGoBy(int n) {
        return n >= 1 && n <= MOST_GOING_BY && n <= LAST_NIGHT - scene.night;
    }

    private int keepNight(int gang) {
        int night = scene.night;
        int thing = judge.goByWith(scene, gang);
        if (thing == NONE) {
            return 0;
        }
        past.keep(night, gang, thing);
        return 1;
    }

    private int drawOf(int m) {
        seedNow = (int) ((1103515245L * seedNow + 12345L) & 0x7fffffffL);
        return m > 0 ? seedNow / 64 % m : 0;
    }

    public boolean steal(int thing) {
        if (!city.holds(THINGS, thing) || scene.where[thing] == STOLEN) {
            return refusedAct(OF_THINGS);
        }
        past.remember(scene);
        scene.put(thing, STOLEN);
        return sceneChanged();
    }

    public boolean back(int thing) {
        if (!city.holds(THINGS, thing) || scene.where[thing] == HANGS_HERE) {
            return refusedAct(OF_THINGS);
        }
        past.remember(scene);
        scene.put(thing, HANGS_HERE);
        return sceneChanged();
    }

    public boolean swap(int first, int second) {
        if (!city.holds(THINGS, first) || !city.holds(THINGS, second)) {
            return refusedAct(OF_THINGS);
        }
        int one = scene.ownerOf(first);
        int other = scene.ownerOf(second);
        if (one == NONE || other == NONE || one == other) {
            return refusedAct(OF_THINGS);
        }
        past.remember(scene);
        scene.put(first, other + 1);
        scene.put(second, one + 1);
        return sceneChanged();
    }

    public boolean undo() {
        if (!past.recall(scene)) {
            return refusedAct(OF_UNDO);
        }
        return sceneChanged();
    }

    public boolean seed(int seed) {
        if (seed < 0) {
            return refusedAct(OF_OTHERS);
        }
        seedNow = seed;
        return true;
    }

    public int kept(int k, int what) {
        if (k < 0 || k >= past.toldCount()) {
            return NONE;
        }
        switch (what) {
            case 0:
                return past.nightOf(k);
            case 1:
                return past.gangOf(k);
            case 2:
                return past.thingOf(k);
            default:
                return NONE;
        }
    }

    // What was reckoned from the scene holds no longer.
    private boolean sceneChanged() {
        game.forget();
        orders.forget();
        return true;
    }

    // ---- images, refusals

    public int image() {
        pictureLength = 0;
        addOctet(scene.night >> 8);
        addOctet(scene.night & 255);
        for (int thing = 0; thing < city.counts[THINGS]; thing++) {
            addOctet(scene.where[thing]);
            addOctet(scene.since[thing] >> 8);
            addOctet(scene.since[thing] & 255);
        }
        int check = 137;
        for (int i = 0; i < pictureLength; i++) {
            check = (5 * check + picture[i]) % 251;
        }
        addOctet(check);
        return pictureLength;
    }

    private void addOctet(int octet) {
        if (pictureLength < picture.length) {
            picture[pictureLength] = octet;
            pictureLength++;
        }
    }

    public int octet(int k) {
        return k >= 0 && k < pictureLength ? picture[k] : NONE;
    }

    public boolean on() {
        int length = takeTape();
        if (!isImage(length)) {
            return refusedAct(OF_OTHERS);
        }
        scene.night = pairOfTape(0);
        for (int thing = 0; thing < city.counts[THINGS]; thing++) {
            scene.where[thing] = byteOfTape(2 + 3 * thing);
            scene.since[thing] = pairOfTape(3 + 3 * thing);
        }
        past.forget();
        return sceneChanged();
    }

    private boolean isImage(int length) {
        int things = city.counts[THINGS];
        if (length != 3 + 3 * things || pairOfTape(0) > LAST_NIGHT) {
            return false;
        }
        for (int thing = 0; thing < things; thing++) {
            int where = byteOfTape(2 + 3 * thing);
            if (where > city.counts[GANGS] && where != STOLEN || pairOfTape(3 + 3 * thing) > MOST_SINCE) {
                return false;
            }
        }
        int check = 137;
        for (int i = 0; i < length - 1; i++) {
            check = (5 * check + byteOfTape(i)) % 251;
        }
        return check == byteOfTape(length - 1);
    }

    private int pairOfTape(int at) {
        return byteOfTape(at) << 8 | byteOfTape(at + 1);
    }

    public int status(int what) {
        return what >= 0 && what < refused.length ? refused[what] : NONE;
    }

    private int refusedNumber(int kind) {
        refused[kind]++;
        return NONE;
    }

    private boolean refusedAct(int kind) {
        refused[kind]++;
        return false;
    }

    // ---- the classes inside

    /** Where each THING is, and for how long, on one NIGHT. */
    private static final class Scene {
        static final int SIZE = 1 + 2 * MOST_THINGS;

        int night = 0;
        final int[] where = new int[MOST_THINGS];
        final int[] since = new int[MOST_THINGS];

        void begin(Town town) {
            night = 0;
            Arrays.fill(where, HANGS_HERE);
            System.arraycopy(town.hangs, 0, since, 0, MOST_THINGS);
        }

        void become(Scene other) {
            night = other.night;
            System.arraycopy(other.where, 0, where, 0, MOST_THINGS);
            System.arraycopy(other.since, 0, since, 0, MOST_THINGS);
        }

        void writeTo(int[] row, int from) {
            row[from] = night;
            System.arraycopy(where, 0, row, from + 1, MOST_THINGS);
            System.arraycopy(since, 0, row, from + 1 + MOST_THINGS, MOST_THINGS);
        }

        void readFrom(int[] row, int from) {
            night = row[from];
            System.arraycopy(row, from + 1, where, 0, MOST_THINGS);
            System.arraycopy(row, from + 1 + MOST_THINGS, since, 0, MOST_THINGS);
        }

        void put(int thing, int place) {
            where[thing] = place;
            since[thing] = 0;
        }

        int ownerOf(int thing) {
            int place = where[thing];
            return place == HANGS_HERE || place == STOLEN ? NONE : place - 1;
        }

        void bringBack(Town town) {
            for (int thing = 0; thing < town.counts[THINGS]; thing++) {
                if (ownerOf(thing) != NONE && since[thing] >= town.keeps) {
                    put(thing, HANGS_HERE);
                }
            }
        }

        void nightEnds(Town town) {
            for (int thing = 0; thing < town.counts[THINGS]; thing++) {
                since[thing] = Math.min(MOST_SINCE, since[thing] + 1);
            }
            night = Math.min(LAST_NIGHT, night + 1);
        }

        int placedAt(int place, Town town) {
            int bits = 0;
            for (int thing = 0; thing < town.counts[THINGS]; thing++) {
                if (where[thing] == place) {
                    bits |= 1 << thing;
                }
            }
            return bits;
        }

        int worthHanging(Town town) {
            int worth = 0;
            for (int thing = 0; thing < town.counts[THINGS]; thing++) {
                if (where[thing] == HANGS_HERE) {
                    worth += town.worth[thing];
                }
            }
            return worth;
        }
    }

    /** What a text tells, with draws and may as code for the Judge. */
    private static final class Town {
        int place = 0;
        int keeps = 0;
        int quarrel = 0;
        int statements = 0;
        int turns = 0;
        final int[] counts = new int[KINDS];
        final long[] names = new long[KINDS * MOST_THINGS];
        final int[] worth = new int[MOST_THINGS];
        final int[] hangs = new int[MOST_THINGS];
        final int[] homes = new int[MOST_GANGS];
        final int[] rota = new int[MOST_TURNS];
        final int[] wants = new int[MOST_GANGS * MOST_THINGS];
        final int[] sights = new int[MOST_VISITORS];
        // Both formulas share one row: together they are no longer than the text.
        final int[] code = new int[MOST_BYTES];
        int codeLength = 0;
        int drawsFrom = 0;
        int drawsTo = 0;
        int mayFrom = 0;
        int mayTo = 0;

        void clear() {
            quarrel = 0;
            statements = 0;
            turns = 0;
            codeLength = 0;
            drawsFrom = 0;
            drawsTo = 0;
            mayFrom = 0;
            mayTo = 0;
            Arrays.fill(counts, 0);
            Arrays.fill(hangs, 0);
            Arrays.fill(wants, 0);
            Arrays.fill(sights, 0);
        }

        void emit(int sign) {
            if (codeLength < MOST_BYTES) {
                code[codeLength] = sign;
                codeLength++;
            }
        }

        boolean hasDraws() {
            return drawsTo > drawsFrom;
        }

        boolean hasMay() {
            return mayTo > mayFrom;
        }

        boolean holds(int kind, int which) {
            return kind >= 0 && kind < KINDS && which >= 0 && which < counts[kind];
        }

        long nameOf(int kind, int which) {
            return names[kind * MOST_THINGS + which];
        }

        void addName(int kind, long name) {
            names[kind * MOST_THINGS + counts[kind]] = name;
            counts[kind]++;
        }

        int find(int kind, long name) {
            for (int which = 0; which < counts[kind]; which++) {
                if (nameOf(kind, which) == name) {
                    return which;
                }
            }
            return NONE;
        }

        boolean knows(long name) {
            return find(THINGS, name) != NONE || find(GANGS, name) != NONE || find(VISITORS, name) != NONE;
        }

        int wanted(int gang, int thing) {
            return wants[gang * MOST_THINGS + thing];
        }

        int turnOn(int night) {
            return turns > 0 ? rota[night % turns] : NONE;
        }

        int turnsOf(int gang) {
            int count = 0;
            for (int k = 0; k < turns; k++) {
                if (rota[k] == gang) {
                    count++;
                }
            }
            return count;
        }
    }

    /** Cuts a text into words, numbers and signs, and holds its first FAULT. */
    private static final class Lexer {
        static final int END = 0;
        static final int OWN = 1;
        static final int NAME = 2;
        static final int NUMBER = 3;
        static final int SIGN = 4;

        // Where the OWN WORDS stand in ALL_OWN; the first seven are what the Judge is given, in that order.
        static final int WORTH = 0;
        static final int WANTS = 1;
        static final int HUNG = 2;
        static final int HANGS = 3;
        static final int NIGHT = 4;
        static final int HAS = 5;
        static final int GONE = 6;
        static final int MIN = 7;
        static final int MAX = 8;
        static final int IF = 9;
        static final int AND = 10;
        static final int OR = 11;
        static final int NOT = 12;
        static final int ALL = 13;
        static final int MUSEUM = 14;
        static final int KEEPS = 15;
        static final int THING = 16;
        static final int GANG = 17;
        static final int AT = 18;
        static final int ROTA = 19;
        static final int SEES = 20;
        static final int DRAWS = 21;
        static final int MAY = 22;
        static final int VISITOR = 23;
        static final int QUARREL = 24;
        private static final int OWN_COUNT = 25;
        private static final String ALL_OWN =
                "worth wants hung hangs night has gone min max if and or not all museum keeps thing gang at rota sees draws may visitor quarrel ";
        private static final int MOST_DIGITS = 4;

        private final byte[] text;
        // Seven letters go into one number, the first one highest, so that words are told apart by ==.
        private final long[] own = new long[OWN_COUNT];
        private int length = 0;
        private int stop = 0;
        int kind = SIGN;
        int start = 0;
        int value = 0;
        long name = 0;
        int faultKind = 0;
        int faultPlace = NONE;

        Lexer(byte[] text) {
            this.text = text;
            int word = 0;
            int k = 0;
            for (int i = 0; i < ALL_OWN.length() && word < OWN_COUNT; i++) {
                char sign = ALL_OWN.charAt(i);
                if (sign == ' ') {
                    word++;
                    k = 0;
                } else {
                    own[word] |= (long) (sign - 'a' + 1) << 5 * (MOST_LETTERS - k);
                    k++;
                }
            }
        }

        static int letterOf(long name, int k) {
            return (int) (name >> 5 * (MOST_LETTERS - k)) & 31;
        }

        boolean begin(int textLength) {
            length = Math.min(textLength, text.length);
            stop = 0;
            kind = SIGN;
            faultKind = 0;
            faultPlace = NONE;
            return advance();
        }

        boolean fail(int fault, int place) {
            faultKind = fault;
            faultPlace = place;
            return false;
        }

        boolean failHere(int fault) {
            faultKind = fault;
            faultPlace = start;
            return false;
        }

        boolean isSign(char sign) {
            return kind == SIGN && value == sign;
        }

        boolean isOwn(int word) {
            return kind == OWN && value == word;
        }

        int placeBehind() {
            int at = stop;
            while (at < length && (text[at] == ' ' || text[at] == '\n')) {
                at++;
            }
            return at;
        }

        boolean endsBehind() {
            return placeBehind() >= length;
        }

        boolean hasLetterBehind() {
            return isLetterAt(placeBehind());
        }

        private boolean isLetterAt(int at) {
            return at >= 0 && at < length && text[at] >= 'a' && text[at] <= 'z';
        }

        private boolean isDigitAt(int at) {
            return at >= 0 && at < length && text[at] >= '0' && text[at] <= '9';
        }

        boolean advance() {
            boolean needsBlank = kind == OWN || kind == NAME || kind == NUMBER;
            int last = stop;
            start = placeBehind();
            stop = start;
            if (start >= length) {
                kind = END;
                return true;
            }
            boolean isWord = isLetterAt(start);
            if (needsBlank && start == last && (isWord || isDigitAt(start))) {
                return failHere(1);
            }
            if (isWord) {
                return cutWord() || fail(1, start + MOST_LETTERS);
            }
            if (isDigitAt(start)) {
                return cutNumber() || fail(1, start + MOST_DIGITS);
            }
            kind = SIGN;
            value = text[start] & 255;
            stop = start + 1;
            return true;
        }

        // False, if the word is too long.
        private boolean cutWord() {
            name = 0;
            while (stop < length && text[stop] >= 'a' && text[stop] <= 'z') {
                if (stop - start <= MOST_LETTERS) {
                    name |= (long) (text[stop] - 'a' + 1) << 5 * (MOST_LETTERS - stop + start);
                }
                stop++;
            }
            int letters = stop - start;
            kind = NAME;
            for (int word = 0; word < OWN_COUNT && letters <= MOST_LETTERS + 1; word++) {
                if (own[word] == name) {
                    kind = OWN;
                    value = word;
                    return true;
                }
            }
            return letters <= MOST_LETTERS;
        }

        // False, if the number is too long.
        private boolean cutNumber() {
            kind = NUMBER;
            value = 0;
            while (stop < length && text[stop] >= '0' && text[stop] <= '9') {
                if (stop - start >= MOST_DIGITS) {
                    return false;
                }
                value = 10 * value + text[stop] - '0';
                stop++;
            }
            return true;
        }
    }

    /** Reads a SUM or a TEST, and writes it into a Town as code, each sign behind what it joins. */
    private static final class FormulaReader {
        private static final int MOST_OPEN = 7;

        private final Lexer lexer;
        private Town target;
        private int open = 0;

        FormulaReader(Lexer lexer, Town target) {
            this.lexer = lexer;
            this.target = target;
        }

        void begin(Town town) {
            target = town;
            open = 0;
        }

        // Apart from sum() and test(), since those call themselves round and so are private.
        boolean readSum() {
            return sum();
        }

        boolean readTest() {
            return test();
        }

        private boolean sum() {
            if (!product()) {
                return false;
            }
            for (int i = 0; i < MOST_BYTES; i++) {
                int sign = lexer.isSign('+') ? Judge.ADD : lexer.isSign('-') ? Judge.SUBTRACT : NONE;
                if (sign == NONE) {
                    return true;
                }
                if (!lexer.advance() || !product()) {
                    return false;
                }
                target.emit(sign);
            }
            return true;
        }

        private boolean product() {
            if (!part()) {
                return false;
            }
            for (int i = 0; i < MOST_BYTES; i++) {
                int sign = productSign();
                if (sign == NONE) {
                    return true;
                }
                if (!lexer.advance() || !part()) {
                    return false;
                }
                target.emit(sign);
            }
            return true;
        }

        private int productSign() {
            if (lexer.isSign('*')) {
                return Judge.MULTIPLY;
            }
            if (lexer.isSign('/')) {
                return Judge.DIVIDE;
            }
            return lexer.isSign('%') ? Judge.REST : NONE;
        }

        private boolean part() {
            if (lexer.kind == Lexer.NUMBER) {
                target.emit(lexer.value);
                return lexer.advance();
            }
            if (lexer.isSign('(')) {
                return opens() && sum() && closes(')');
            }
            if (lexer.kind != Lexer.OWN) {
                return lexer.failHere(1);
            }
            if (lexer.value <= Lexer.GONE) {
                target.emit(Judge.FIRST_GIVEN + lexer.value);
                return lexer.advance();
            }
            switch (lexer.value) {
                case Lexer.MIN:
                    return lexer.advance() && pair(Judge.LEAST);
                case Lexer.MAX:
                    return lexer.advance() && pair(Judge.MOST);
                case Lexer.IF:
                    return lexer.advance() && choice();
                default:
                    return lexer.failHere(1);
            }
        }

        private boolean pair(int sign) {
            if (!opensRound() || !sum() || !passes(',') || !sum() || !closes(')')) {
                return false;
            }
            target.emit(sign);
            return true;
        }

        private boolean choice() {
            if (!opensRound() || !test() || !passes(',') || !sum() || !passes(',') || !sum() || !closes(')')) {
                return false;
            }
            target.emit(Judge.CHOOSE);
            return true;
        }

        private boolean test() {
            if (!both()) {
                return false;
            }
            for (int i = 0; i < MOST_BYTES && lexer.isOwn(Lexer.OR); i++) {
                if (!lexer.advance() || !both()) {
                    return false;
                }
                target.emit(Judge.EITHER);
            }
            return true;
        }

        private boolean both() {
            if (!fact()) {
                return false;
            }
            for (int i = 0; i < MOST_BYTES && lexer.isOwn(Lexer.AND); i++) {
                if (!lexer.advance() || !fact()) {
                    return false;
                }
                target.emit(Judge.BOTH);
            }
            return true;
        }

        private boolean fact() {
            if (lexer.isOwn(Lexer.NOT)) {
                return denial();
            }
            if (lexer.isSign('[')) {
                return opens() && test() && closes(']');
            }
            if (lexer.isOwn(Lexer.ALL)) {
                target.emit(1);
                return lexer.advance();
            }
            if (!sum()) {
                return false;
            }
            int sign = lexer.isSign('<') ? Judge.BELOW : lexer.isSign('>') ? Judge.ABOVE : Judge.LIKE;
            if (sign == Judge.LIKE && !lexer.isSign('=')) {
                return lexer.failHere(1);
            }
            if (!lexer.advance() || !sum()) {
                return false;
            }
            target.emit(sign);
            return true;
        }

        private boolean denial() {
            if (!opens() || !fact()) {
                return false;
            }
            open--;
            target.emit(Judge.DENY);
            return true;
        }

        private boolean opensRound() {
            if (!lexer.isSign('(')) {
                return lexer.failHere(1);
            }
            if (open >= MOST_OPEN) {
                return lexer.failHere(5);
            }
            open++;
            return lexer.advance();
        }

        // At a ( or [ or not.
        private boolean opens() {
            if (open >= MOST_OPEN) {
                return lexer.failHere(5);
            }
            open++;
            return lexer.advance();
        }

        private boolean closes(char sign) {
            open--;
            return lexer.isSign(sign) ? lexer.advance() : lexer.failHere(1);
        }

        private boolean passes(char sign) {
            return lexer.isSign(sign) ? lexer.advance() : lexer.failHere(1);
        }
    }

    /** Reads the STATEMENTS of a text into a Town; each word is judged before the next one is cut. */
    private static final class TownReader {
        private static final int MOST_STATEMENTS = 80;
        private static final int MOST_PLACE = 99;
        private static final int MOST_WORTH = 99;
        private static final int MOST_HANGING = 30;
        private static final int MOST_KEEPING = 30;
        private static final int MOST_QUARREL = 100;

        private final Lexer lexer;
        private final FormulaReader formulas;
        private Town target;

        TownReader(byte[] text, Town target) {
            this.target = target;
            lexer = new Lexer(text);
            formulas = new FormulaReader(lexer, target);
        }

        int faultKind() {
            return lexer.faultKind;
        }

        int faultPlace() {
            return lexer.faultPlace;
        }

        boolean read(Town town, int length) {
            target = town;
            target.clear();
            formulas.begin(target);
            if (!lexer.begin(length)) {
                return false;
            }
            if (lexer.kind == Lexer.END) {
                return lexer.failHere(1);
            }
            for (int i = 0; i < MOST_STATEMENTS && lexer.kind != Lexer.END; i++) {
                if (!readStatement() || !endStatement()) {
                    return false;
                }
            }
            return true;
        }

        private boolean endStatement() {
            if (!lexer.isSign(';')) {
                return lexer.failHere(1);
            }
            target.statements++;
            if (target.statements == MOST_STATEMENTS && !lexer.endsBehind()) {
                return lexer.fail(6, lexer.placeBehind());
            }
            return lexer.advance();
        }

        private boolean readStatement() {
            boolean isFirst = target.statements == 0;
            if (lexer.kind != Lexer.OWN || isFirst != lexer.isOwn(Lexer.MUSEUM)) {
                return lexer.failHere(1);
            }
            int word = lexer.value;
            if (isOneTooMany(word)) {
                return lexer.failHere(6);
            }
            switch (word) {
                case Lexer.MUSEUM:
                    return lexer.advance() && readMuseum();
                case Lexer.THING:
                    return lexer.advance() && readThing();
                case Lexer.GANG:
                    return lexer.advance() && readGang();
                case Lexer.ROTA:
                    return lexer.advance() && readRota();
                case Lexer.WANTS:
                    return lexer.advance() && readWants();
                case Lexer.VISITOR:
                    return lexer.advance() && readVisitor();
                case Lexer.DRAWS:
                    return lexer.advance() && readDraws();
                case Lexer.MAY:
                    return lexer.advance() && readMay();
                case Lexer.QUARREL:
                    return lexer.advance() && readQuarrel();
                default:
                    return lexer.failHere(1);
            }
        }

        private boolean isOneTooMany(int word) {
            switch (word) {
                case Lexer.THING:
                    return target.counts[THINGS] >= MOST_THINGS;
                case Lexer.GANG:
                    return target.counts[GANGS] >= MOST_GANGS;
                case Lexer.VISITOR:
                    return target.counts[VISITORS] >= MOST_VISITORS;
                case Lexer.ROTA:
                    return target.turns > 0;
                case Lexer.DRAWS:
                    return target.hasDraws();
                case Lexer.MAY:
                    return target.hasMay();
                default:
                    return false;
            }
        }

        private boolean readMuseum() {
            int place = number(0, MOST_PLACE);
            if (place == NONE || !passes(Lexer.KEEPS)) {
                return false;
            }
            int keeps = number(1, MOST_KEEPING);
            target.place = place;
            target.keeps = keeps;
            return keeps != NONE;
        }

        private boolean readThing() {
            int thing = newName(THINGS);
            if (thing == NONE || !passes(Lexer.WORTH)) {
                return false;
            }
            int worth = number(0, MOST_WORTH);
            if (worth == NONE || !passes(Lexer.HANGS)) {
                return false;
            }
            int hangs = number(0, MOST_HANGING);
            target.worth[thing] = worth;
            target.hangs[thing] = hangs;
            return hangs != NONE;
        }

        private boolean readGang() {
            int gang = newName(GANGS);
            if (gang == NONE || !passes(Lexer.AT)) {
                return false;
            }
            int place = number(0, MOST_PLACE);
            target.homes[gang] = place;
            return place != NONE;
        }

        private boolean readRota() {
            for (int i = 0; i < MOST_TURNS; i++) {
                if (i > 0 && lexer.isSign(';')) {
                    return true;
                }
                int gang = knownName(GANGS);
                if (gang == NONE) {
                    return false;
                }
                target.rota[i] = gang;
                target.turns = i + 1;
                if (target.turns == MOST_TURNS && lexer.hasLetterBehind()) {
                    return lexer.fail(6, lexer.placeBehind());
                }
                if (!lexer.advance()) {
                    return false;
                }
            }
            return true;
        }

        private boolean readWants() {
            int gang = knownName(GANGS);
            if (gang == NONE || !lexer.advance()) {
                return false;
            }
            int thing = knownName(THINGS);
            if (thing == NONE || !lexer.advance()) {
                return false;
            }
            int wanted = number(0, MOST_WORTH);
            target.wants[gang * MOST_THINGS + thing] = wanted;
            return wanted != NONE;
        }

        private boolean readVisitor() {
            int visitor = newName(VISITORS);
            if (visitor == NONE || !passes(Lexer.SEES)) {
                return false;
            }
            for (int i = 0; i <= MOST_THINGS; i++) {
                if (i > 0 && lexer.isSign(';')) {
                    return true;
                }
                int thing = knownName(THINGS);
                if (thing == NONE) {
                    return false;
                }
                if ((target.sights[visitor] >> thing & 1) != 0) {
                    return lexer.failHere(3);
                }
                target.sights[visitor] |= 1 << thing;
                if (!lexer.advance()) {
                    return false;
                }
            }
            return true;
        }

        private boolean readDraws() {
            target.drawsFrom = target.codeLength;
            boolean stands = formulas.readSum();
            target.drawsTo = target.codeLength;
            return stands;
        }

        private boolean readMay() {
            target.mayFrom = target.codeLength;
            boolean stands = formulas.readTest();
            target.mayTo = target.codeLength;
            return stands;
        }

        private boolean readQuarrel() {
            target.quarrel = number(0, MOST_QUARREL);
            return target.quarrel != NONE;
        }

        private boolean passes(int word) {
            return lexer.isOwn(word) ? lexer.advance() : lexer.failHere(1);
        }

        private int number(int least, int most) {
            if (lexer.kind != Lexer.NUMBER) {
                lexer.failHere(1);
                return NONE;
            }
            int found = lexer.value;
            if (found < least || found > most) {
                lexer.failHere(4);
                return NONE;
            }
            return lexer.advance() ? found : NONE;
        }

        private int newName(int kind) {
            if (lexer.kind != Lexer.NAME) {
                lexer.failHere(1);
                return NONE;
            }
            if (target.knows(lexer.name)) {
                lexer.failHere(2);
                return NONE;
            }
            int which = target.counts[kind];
            target.addName(kind, lexer.name);
            return lexer.advance() ? which : NONE;
        }

        // Does not go on to the next word: what stands behind may be at fault in another way.
        private int knownName(int kind) {
            if (lexer.kind != Lexer.NAME) {
                lexer.failHere(1);
                return NONE;
            }
            int which = target.find(kind, lexer.name);
            if (which == NONE) {
                lexer.failHere(3);
            }
            return which;
        }
    }

    /** Says what a GANG can take and what draws it most, and lets NIGHTS go by. */
    private static final class Judge {
        // Code below FIRST_GIVEN is a NUMBER; from there to FIRST_SIGN it is what the Judge is given.
        static final int FIRST_GIVEN = 10000;
        static final int GIVEN_COUNT = Lexer.GONE + 1;
        static final int FIRST_SIGN = FIRST_GIVEN + GIVEN_COUNT;
        static final int ADD = FIRST_SIGN;
        static final int SUBTRACT = FIRST_SIGN + 1;
        static final int MULTIPLY = FIRST_SIGN + 2;
        static final int DIVIDE = FIRST_SIGN + 3;
        static final int REST = FIRST_SIGN + 4;
        static final int LEAST = FIRST_SIGN + 5;
        static final int MOST = FIRST_SIGN + 6;
        static final int BELOW = FIRST_SIGN + 7;
        static final int ABOVE = FIRST_SIGN + 8;
        static final int LIKE = FIRST_SIGN + 9;
        static final int BOTH = FIRST_SIGN + 10;
        static final int EITHER = FIRST_SIGN + 11;
        static final int DENY = FIRST_SIGN + 12;
        static final int CHOOSE = FIRST_SIGN + 13;
        private static final int LIMIT = 1000000;
        // Seven open at once leave at most some seven numbers waiting each.
        private static final int STACK_SIZE = 80;

        Town town;
        private final int[] stack = new int[STACK_SIZE];
        private final int[] given = new int[GIVEN_COUNT];

        Judge(Town town) {
            this.town = town;
        }

        int goBy(Scene scene) {
            return goByWith(scene, town.turnOn(scene.night));
        }

        int goByWith(Scene scene, int gang) {
            scene.bringBack(town);
            int thing = gang == NONE ? NONE : drawnTo(scene, gang);
            if (thing != NONE) {
                scene.put(thing, gang + 1);
            }
            scene.nightEnds(town);
            return thing;
        }

        private int drawnTo(Scene scene, int gang) {
            int most = 0;
            int found = NONE;
            lookAround(scene, gang);
            for (int thing = 0; thing < town.counts[THINGS]; thing++) {
                if (lookAt(scene, gang, thing) && (!town.hasMay() || resultOf(town.mayFrom, town.mayTo) != 0)) {
                    int pull = given[Lexer.WORTH] + given[Lexer.WANTS];
                    if (town.hasDraws()) {
                        pull = resultOf(town.drawsFrom, town.drawsTo);
                    }
                    if (pull > most) {
                        most = pull;
                        found = thing;
                    }
                }
            }
            return found;
        }

        int canTake(Scene scene, int gang) {
            int bits = 0;
            lookAround(scene, gang);
            for (int thing = 0; thing < town.counts[THINGS]; thing++) {
                if (lookAt(scene, gang, thing) && (!town.hasMay() || resultOf(town.mayFrom, town.mayTo) != 0)) {
                    bits |= 1 << thing;
                }
            }
            return bits;
        }

        private void lookAround(Scene scene, int gang) {
            int had = 0;
            int gone = 0;
            for (int thing = 0; thing < town.counts[THINGS]; thing++) {
                int where = scene.where[thing];
                if (where != HANGS_HERE) {
                    gone++;
                }
                if (where == gang + 1) {
                    had++;
                }
            }
            given[Lexer.NIGHT] = scene.night;
            given[Lexer.HAS] = had;
            given[Lexer.GONE] = gone;
        }

        // False, if the THING does not hang, or not for long enough.
        private boolean lookAt(Scene scene, int gang, int thing) {
            if (scene.where[thing] != HANGS_HERE || scene.since[thing] < town.hangs[thing]) {
                return false;
            }
            given[Lexer.WORTH] = town.worth[thing];
            given[Lexer.WANTS] = town.wanted(gang, thing);
            given[Lexer.HUNG] = scene.since[thing];
            given[Lexer.HANGS] = town.hangs[thing];
            return true;
        }

        private int resultOf(int from, int to) {
            int top = 0;
            for (int i = from; i < to && top < STACK_SIZE; i++) {
                int sign = town.code[i];
                if (sign < FIRST_GIVEN) {
                    stack[top] = sign;
                    top++;
                } else if (sign < FIRST_SIGN) {
                    stack[top] = given[sign - FIRST_GIVEN];
                    top++;
                } else if (sign == DENY && top >= 1) {
                    stack[top - 1] = 1 - stack[top - 1];
                } else if (sign == CHOOSE && top >= 3) {
                    top -= 2;
                    stack[top - 1] = stack[top - 1] != 0 ? stack[top] : stack[top + 1];
                } else if (top >= 2) {
                    top--;
                    long result = joined(sign, stack[top - 1], stack[top]);
                    stack[top - 1] = (int) (result > LIMIT ? LIMIT : result < -LIMIT ? -LIMIT : result);
                }
            }
            return stack[0];
        }

        private static long joined(int sign, int a, int b) {
            switch (sign) {
                case ADD:
                    return a + b;
                case SUBTRACT:
                    return a - b;
                case MULTIPLY:
                    return (long) a * b;
                case DIVIDE:
                    return b == 0 ? 0 : Math.floorDiv(a, b);
                case REST:
                    return b == 0 ? 0 : Math.floorMod(a, b);
                case LEAST:
                    return Math.min(a, b);
                case MOST:
                    return Math.max(a, b);
                case BELOW:
                    return a < b ? 1 : 0;
                case ABOVE:
                    return a > b ? 1 : 0;
                case LIKE:
                    return a == b ? 1 : 0;
                case BOTH:
                    return a & b;
                default:
                    return a | b;
            }
        }
    }

    /** BEST: what to take now, when each GANG looks to what it can still take in these NIGHTS. */
    private static final class Game {
        private final Judge judge;
        private final Scene[] scenes = new Scene[MOST_BEST + 1];
        private final int[] gains = new int[(MOST_BEST + 1) * MOST_GANGS];
        private int nights = 0;
        int thing = NONE;
        int worth = 0;

        Game(Judge judge) {
            this.judge = judge;
            for (int i = 0; i < scenes.length; i++) {
                scenes[i] = new Scene();
            }
        }

        void forget() {
            nights = 0;
        }

        void solve(Scene now, int n) {
            if (n == nights || n > MOST_BEST) {
                return;
            }
            nights = n;
            scenes[0].become(now);
            thing = bestFrom(0);
            int gang = judge.town.turnOn(now.night);
            worth = gang == NONE ? 0 : gains[gang];
        }

        // Leaves in the row of this depth what each GANG takes from here on.
        private int bestFrom(int depth) {
            Town town = judge.town;
            Scene now = scenes[depth];
            now.bringBack(town);
            int gang = town.turnOn(now.night);
            int row = depth * MOST_GANGS;
            int free = gang == NONE ? 0 : judge.canTake(now, gang);
            int found = NONE;
            followOn(depth, gang, NONE);
            System.arraycopy(gains, row + MOST_GANGS, gains, row, MOST_GANGS);
            for (int taken = 0; taken < town.counts[THINGS]; taken++) {
                if ((free >> taken & 1) != 0) {
                    followOn(depth, gang, taken);
                    int gain = gains[row + MOST_GANGS + gang] + town.wanted(gang, taken);
                    if (gain > gains[row + gang]) {
                        System.arraycopy(gains, row + MOST_GANGS, gains, row, MOST_GANGS);
                        gains[row + gang] = gain;
                        found = taken;
                    }
                }
            }
            return found;
        }

        private void followOn(int depth, int gang, int taken) {
            if (depth + 1 >= nights) {
                for (int other = 0; other < MOST_GANGS; other++) {
                    gains[(depth + 1) * MOST_GANGS + other] = 0;
                }
                return;
            }
            Scene then = scenes[depth + 1];
            then.become(scenes[depth]);
            if (taken != NONE) {
                then.put(taken, gang + 1);
            }
            then.nightEnds(judge.town);
            bestFrom(depth + 1);
        }
    }

    /** ROTA: tries all orders, those that begin alike sharing their first NIGHTS. */
    private static final class Orders {
        private final Judge judge;
        private final Scene[] scenes = new Scene[MOST_GANGS + 1];
        private final int[] order = new int[MOST_GANGS];
        private final int[] whole = new int[MOST_GANGS];
        private int nights = 0;
        private int gangs = 0;
        int mostWorth = NONE;
        final int[] mostOrder = new int[MOST_GANGS];

        Orders(Judge judge) {
            this.judge = judge;
            for (int i = 0; i < scenes.length; i++) {
                scenes[i] = new Scene();
            }
        }

        void forget() {
            nights = 0;
        }

        void solve(Scene now, int n) {
            gangs = judge.town.counts[GANGS];
            if (n == nights || gangs == 0) {
                return;
            }
            nights = n;
            mostWorth = NONE;
            Arrays.fill(order, NONE);
            scenes[0].become(now);
            seat(0, 0, 0);
        }

        // Turns are filled as NIGHTS come to them, which need not begin with the first turn; the others stay NONE.
        private void seat(int depth, int seated, int worth) {
            if (depth >= gangs || depth >= nights) {
                weigh(depth, seated, worth);
                return;
            }
            int turn = scenes[depth].night % gangs;
            for (int gang = 0; gang < gangs; gang++) {
                if ((seated >> gang & 1) == 0) {
                    order[turn] = gang;
                    Scene then = scenes[depth + 1];
                    then.become(scenes[depth]);
                    judge.goByWith(then, gang);
                    seat(depth + 1, seated | 1 << gang, worth + then.worthHanging(judge.town));
                }
            }
        }

        private void weigh(int depth, int seated, int worthSoFar) {
            fillWhole(seated);
            Scene now = scenes[depth];
            int worth = worthSoFar;
            for (int i = depth; i < nights; i++) {
                judge.goByWith(now, whole[now.night % gangs]);
                worth += now.worthHanging(judge.town);
            }
            if (worth > mostWorth || worth == mostWorth && isWholeAhead()) {
                mostWorth = worth;
                System.arraycopy(whole, 0, mostOrder, 0, gangs);
            }
        }

        private void fillWhole(int seated) {
            int gang = 0;
            for (int turn = 0; turn < gangs; turn++) {
                whole[turn] = order[turn];
                if (order[turn] == NONE) {
                    while (gang < gangs && (seated >> gang & 1) != 0) {
                        gang++;
                    }
                    whole[turn] = gang;
                    gang++;
                }
            }
        }

        private boolean isWholeAhead() {
            for (int turn = 0; turn < gangs; turn++) {
                if (whole[turn] != mostOrder[turn]) {
                    return whole[turn] < mostOrder[turn];
                }
            }
            return false;
        }
    }

    /** The ACTS that can be undone, and what was KEPT. */
    private static final class Past {
        // So many are held that what is told can be told again when all ACTS are undone.
        private static final int ROWS = MOST_TOLD + MOST_ACTS * MOST_GOING_BY;

        private final int[] scenes = new int[MOST_ACTS * Scene.SIZE];
        private final int[] keptAhead = new int[MOST_ACTS];
        private int next = 0;
        int acts = 0;
        private final int[] rows = new int[ROWS];
        private int keptCount = 0;

        void forget() {
            acts = 0;
            keptCount = 0;
        }

        void remember(Scene scene) {
            scene.writeTo(scenes, next * Scene.SIZE);
            keptAhead[next] = keptCount;
            next = (next + 1) % MOST_ACTS;
            acts = Math.min(MOST_ACTS, acts + 1);
        }

        boolean recall(Scene scene) {
            if (acts == 0) {
                return false;
            }
            acts--;
            next = (next + MOST_ACTS - 1) % MOST_ACTS;
            scene.readFrom(scenes, next * Scene.SIZE);
            keptCount = keptAhead[next];
            return true;
        }

        void keep(int night, int gang, int thing) {
            rows[keptCount % ROWS] = night << 8 | gang << 4 | thing;
            keptCount++;
        }

        int toldCount() {
            return Math.min(MOST_TOLD, keptCount);
        }

        private int rowOf(int k) {
            return rows[(keptCount - toldCount() + k) % ROWS];
        }

        int nightOf(int k) {
            return rowOf(k) >> 8;
        }

        int gangOf(int k) {
            return rowOf(k) >> 4 & 15;
        }

        int thingOf(int k) {
            return rowOf(k) & 15;
        }
    }
}
