import java.util.Arrays;

/** A valley whose gold rings: who hears what where, and what follows from it. */
public final class GoldByEar {
    public static final int NONE = -1, UNKNOWN = -1000000001, OUTSIDE = -1000000002, NOT = -1000000003, FULL = -1000000004;

    private static final int MOST_LETTERS = 230;
    private static final int MOST_SIDE = 6;
    private static final int MOST_CELLS = MOST_SIDE * MOST_SIDE;
    private static final int MOST_LUMPS = 7;
    private static final int MOST_HEARERS = 4;
    private static final int MOST_SIZE = 9;
    private static final int LUMP_SETS = 1 << MOST_LUMPS;
    private static final int PITCHES = 12;
    private static final int PITCH_SETS = 1 << PITCHES;
    private static final int MOST_NOISE = 99;
    private static final int UNTOLD_NOISE = 5;
    private static final int HUM_NOISE = 10;
    private static final int WINDS = 5;
    private static final int GOOD_EAR = 0;
    private static final int LEFT_EAR = 1;
    private static final int DEAF_EAR = 2;
    private static final int MOST_POSTS = 4;
    private static final int MOST_TRIED_HOURS = 60;
    private static final int MOST_DRIFT = 99;
    private static final int LAST_HOUR = 90000;
    private static final int MOST_HEARINGS = 8;
    private static final int MOST_LOUD = 999;
    private static final int MOST_ENTRIES = 15;
    private static final int MOST_UNDONE = 20;
    private static final int MOST_IMAGES = 2;
    private static final int BILLION = 1000000000;
    private static final int STAND = -2;

    private final Text text;
    private final Valley spare;
    private final Valley ground;
    private final Moment now;
    private final Past past;
    private final Images images;
    private final Notes notes;
    private final Sound sound;
    private final PostSearch postSearch;
    private final DigSearch digSearch;
    private final LieSearch lieSearch;
    private int faultAt;
    private int theSeed;

    public GoldByEar() {
        text = new Text();
        spare = new Valley();
        ground = new Valley();
        now = new Moment();
        past = new Past();
        images = new Images();
        notes = new Notes();
        sound = new Sound(ground, now);
        postSearch = new PostSearch(ground, now, sound);
        digSearch = new DigSearch(ground, now);
        lieSearch = new LieSearch(ground, now, notes);
        faultAt = NONE;
        theSeed = 0;
    }

    // ---- the valley

    public int feed(int letter) {
        if (letter < 0 || letter > 255) {
            return OUTSIDE;
        }
        return text.put(letter) ? text.length : FULL;
    }

    public int valley() {
        int kind = text.readInto(spare);
        faultAt = text.faultAt;
        text.length = 0;
        if (kind != 0) {
            return -10 - kind;
        }
        ground.copy(spare);
        now.begin(ground);
        past.forget();
        images.forget();
        notes.forget();
        return ground.lumps;
    }

    public int fault() {
        return faultAt;
    }

    public int told(int what) {
        switch (what) {
            case 0: return ground.width;
            case 1: return ground.height;
            case 2: return ground.wall;
            case 3: return ground.lumps;
            case 4: return ground.hearers;
            case 5: return text.length;
            case 6: return now.wind;
            case 7: return now.noise;
            case 8: return now.hours;
            case 9: return now.digger;
            case 10: return now.out;
            case 11: return ground.sizeOf(now.out);
            case 12: return notes.hearings;
            case 13: return notes.entries;
            case 14: return past.count;
            default: return OUTSIDE;
        }
    }

    public int lump(int l, int what) {
        if (!ground.hasLump(l)) {
            return UNKNOWN;
        }
        switch (what) {
            case 0: return ground.lumpCell[l];
            case 1: return ground.lumpPitch[l];
            case 2: return ground.lumpSize[l];
            case 3: return now.isOut(l) ? 1 : 0;
            default: return OUTSIDE;
        }
    }

    public int hearer(int h, int what) {
        if (!ground.hasHearer(h)) {
            return UNKNOWN;
        }
        switch (what) {
            case 0: return now.place[h];
            case 1: return ground.ear[h];
            case 2: return sound.heardBy(h, 0);
            case 3: return sound.foolsOf(h);
            default: return OUTSIDE;
        }
    }

    public int loud(int l, int cell, boolean echo) {
        if (!ground.hasLump(l) || !ground.hasCell(cell)) {
            return UNKNOWN;
        }
        return echo ? sound.echoOf(l, cell) : sound.ringOf(l, cell);
    }

    public int sounds(int cell, int pitch) {
        if (!ground.hasCell(cell)) {
            return UNKNOWN;
        }
        return isPitch(pitch) ? sound.pitchAt(cell, pitch) : OUTSIDE;
    }

    // ---- what is done

    public int blow(int wind) {
        if (wind < 0 || wind >= WINDS) {
            return OUTSIDE;
        }
        past.push(now);
        int was = now.wind;
        now.wind = wind;
        return was;
    }

    public int noise(int n) {
        if (n < 0 || n > MOST_NOISE) {
            return OUTSIDE;
        }
        past.push(now);
        int was = now.noise;
        now.noise = n;
        return was;
    }

    public int stand(int h, int cell) {
        if (!ground.hasHearer(h) || !ground.hasCell(cell)) {
            return UNKNOWN;
        }
        past.push(now);
        now.place[h] = cell;
        return sound.heardBy(h, 0);
    }

    public int walk(int cell) {
        if (!ground.hasCell(cell)) {
            return UNKNOWN;
        }
        if (now.hours > LAST_HOUR) {
            return FULL;
        }
        past.push(now);
        now.hours += ground.apart(now.digger, cell);
        now.digger = cell;
        return now.hours;
    }

    public int dig() {
        int l = ground.lumpOn(now.digger);
        if (!ground.hasLump(l) || now.isOut(l)) {
            return NOT;
        }
        if (now.hours > LAST_HOUR) {
            return FULL;
        }
        past.push(now);
        now.out |= 1 << l;
        now.hours++;
        return ground.lumpSize[l];
    }

    public int drift(int n) {
        if (n < 1 || n > MOST_DRIFT) {
            return OUTSIDE;
        }
        if (ground.cells() == 0) {
            return NOT;
        }
        if (now.hours > LAST_HOUR) {
            return FULL;
        }
        past.push(now);
        for (int hour = 0; hour < n; hour++) {
            driftAnHour();
        }
        return now.hours;
    }

    public int undo() {
        if (!past.popInto(now)) {
            return NOT;
        }
        return past.count;
    }

    // ---- tried

    public int posts(int i) {
        postSearch.find();
        if (i == NONE) {
            return postSearch.count;
        }
        return i >= 0 && i < postSearch.count && i < MOST_POSTS ? postSearch.found[i] : NONE;
    }

    public int order(int n, int i) {
        if (n < 0 || n > MOST_TRIED_HOURS) {
            return OUTSIDE;
        }
        digSearch.find(n);
        return i == NONE ? digSearch.gold : digSearch.lumpAt(i);
    }

    public int claims(int what) {
        if (what < 0 || what > 1) {
            return OUTSIDE;
        }
        int set = sound.bestClaims();
        return what == 0 ? ground.sizeOf(set) : set;
    }

    public int alloy(int a, int b, int pitch) {
        if (!isPitch(a) || !isPitch(b) || !isPitch(pitch)) {
            return OUTSIDE;
        }
        int set = 0;
        for (int k = 0; k <= 10; k++) {
            if ((k * a + (10 - k) * b) / 10 == pitch) {
                set |= 1 << k;
            }
        }
        return set;
    }

    public int hum(int h, int k) {
        if (!ground.hasHearer(h) || !ground.hasHearer(k) || h == k) {
            return UNKNOWN;
        }
        int set = 0;
        for (int pair = 0; pair < 4; pair++) {
            int first = pair & 1;
            int second = pair >> 1;
            if (isContent(h, first, k, second) && isContent(k, second, h, first)) {
                set |= 1 << pair;
            }
        }
        return set;
    }

    public int still(int cell, int set) {
        if (!ground.hasCell(cell) || set < 0 || set >= 1 << ground.lumps) {
            return UNKNOWN;
        }
        return sound.heardAt(cell, now.out | set);
    }

    public int train(int n, int q) {
        if (n < 0 || n > MOST_TRIED_HOURS || q < 0 || q > 100) {
            return OUTSIDE;
        }
        long odds = BILLION;
        for (int hour = 0; hour < n; hour++) {
            odds = odds * (100 - q) / 100;
        }
        return (int) odds;
    }

    // ---- hearings, books, images

    public int hear(int cell, int pitch, int loud) {
        if (!ground.hasCell(cell)) {
            return UNKNOWN;
        }
        if (!isPitch(pitch) || loud < 0 || loud > MOST_LOUD) {
            return OUTSIDE;
        }
        return notes.putHearing(cell, pitch, loud) ? notes.hearings : FULL;
    }

    public int lies(int pitch, int i) {
        if (!isPitch(pitch)) {
            return OUTSIDE;
        }
        lieSearch.find(pitch);
        if (i == NONE) {
            return lieSearch.count;
        }
        return i == STAND ? lieSearch.bestCell() : lieSearch.fitting(i);
    }

    public int write(int h, int set) {
        if (!ground.hasHearer(h)) {
            return UNKNOWN;
        }
        if (set < 0 || set >= PITCH_SETS) {
            return OUTSIDE;
        }
        return notes.putEntry(h, set) ? notes.entries : FULL;
    }

    public int tear() {
        int had = notes.hearings + notes.entries;
        notes.forget();
        return had;
    }

    public int judge() {
        for (int e = 0; e < notes.entries; e++) {
            if (sound.heardBy(notes.entryHearer[e], 0) != notes.entrySet[e]) {
                return e;
            }
        }
        return NONE;
    }

    public int seed(int v) {
        if (v < 0) {
            return OUTSIDE;
        }
        int was = theSeed;
        theSeed = v;
        return was;
    }

    public int keep(int i) {
        if (i < 0 || i >= MOST_IMAGES) {
            return UNKNOWN;
        }
        images.moments[i].copy(now);
        images.seeds[i] = theSeed;
        images.kept[i] = true;
        past.forget();
        return 1;
    }

    public int goBack(int i) {
        if (i < 0 || i >= MOST_IMAGES) {
            return UNKNOWN;
        }
        if (!images.kept[i]) {
            return NOT;
        }
        now.copy(images.moments[i]);
        theSeed = images.seeds[i];
        past.forget();
        return 1;
    }

    private static boolean isPitch(int pitch) {
        return pitch >= 0 && pitch < PITCHES;
    }

    private void driftAnHour() {
        int what = draw(3);
        if (what == 0) {
            now.wind = draw(WINDS);
        } else if (what == 1) {
            now.noise = draw(30);
        }
        now.hours++;
    }

    private int draw(int n) {
        theSeed = (int) ((theSeed * 1103515245L + 12345L) & 0x7fffffffL);
        return n > 0 ? theSeed / 65536 % n : 0;
    }

    /** Whether h, who hums or not, has no more by doing otherwise while the other one stays as it is. */
    private boolean isContent(int h, int hums, int other, int otherHums) {
        return wishOf(h, hums, other, otherHums) >= wishOf(h, 1 - hums, other, otherHums);
    }

    private int wishOf(int h, int hums, int other, int otherHums) {
        int own = Integer.bitCount(sound.heardBy(h, HUM_NOISE * otherHums));
        int others = Integer.bitCount(sound.heardBy(other, HUM_NOISE * hums));
        return 2 * own - others - hums;
    }

    /** What a text tells: the ground, its lumps, its hearers as they stand at first. */
    private static final class Valley {
        int width;
        int height;
        int wall;
        int firstNoise;
        int lumps;
        int hearers;
        final int[] lumpCell;
        final int[] lumpPitch;
        final int[] lumpSize;
        final int[] firstPlace;
        final int[] ear;

        Valley() {
            lumpCell = new int[MOST_LUMPS];
            lumpPitch = new int[MOST_LUMPS];
            lumpSize = new int[MOST_LUMPS];
            firstPlace = new int[MOST_HEARERS];
            ear = new int[MOST_HEARERS];
            firstNoise = UNTOLD_NOISE;
        }

        void empty() {
            width = 0;
            height = 0;
            wall = 0;
            firstNoise = UNTOLD_NOISE;
            lumps = 0;
            hearers = 0;
        }

        void copy(Valley other) {
            width = other.width;
            height = other.height;
            wall = other.wall;
            firstNoise = other.firstNoise;
            lumps = other.lumps;
            hearers = other.hearers;
            System.arraycopy(other.lumpCell, 0, lumpCell, 0, MOST_LUMPS);
            System.arraycopy(other.lumpPitch, 0, lumpPitch, 0, MOST_LUMPS);
            System.arraycopy(other.lumpSize, 0, lumpSize, 0, MOST_LUMPS);
            System.arraycopy(other.firstPlace, 0, firstPlace, 0, MOST_HEARERS);
            System.arraycopy(other.ear, 0, ear, 0, MOST_HEARERS);
        }

        void addLump(int cell, int pitch, int size) {
            if (lumps < MOST_LUMPS) {
                lumpCell[lumps] = cell;
                lumpPitch[lumps] = pitch;
                lumpSize[lumps] = size;
                lumps++;
            }
        }

        void addHearer(int cell, int itsEar) {
            if (hearers < MOST_HEARERS) {
                firstPlace[hearers] = cell;
                ear[hearers] = itsEar;
                hearers++;
            }
        }

        int cells() {
            return width * height;
        }

        boolean hasCell(int cell) {
            return cell >= 0 && cell < cells();
        }

        boolean hasLump(int l) {
            return l >= 0 && l < lumps;
        }

        boolean hasHearer(int h) {
            return h >= 0 && h < hearers;
        }

        int column(int cell) {
            return width > 0 ? cell % width : 0;
        }

        int row(int cell) {
            return width > 0 ? cell / width : 0;
        }

        int apart(int a, int b) {
            return Math.abs(column(a) - column(b)) + Math.abs(row(a) - row(b));
        }

        int lumpOn(int cell) {
            for (int l = 0; l < lumps; l++) {
                if (lumpCell[l] == cell) {
                    return l;
                }
            }
            return NONE;
        }

        int sizeOf(int set) {
            int size = 0;
            for (int l = 0; l < lumps; l++) {
                if ((set >> l & 1) == 1) {
                    size += lumpSize[l];
                }
            }
            return size;
        }
    }

    /** The letters that were fed, and how they are read up to the first fault. */
    private static final class Text {
        private static final int MISPLACED = 1;
        private static final int BEYOND = 2;
        private static final int TOO_MANY = 3;
        private static final int TAKEN = 4;

        final int[] letters;
        int length;
        int faultAt;
        private int faultKind;
        private int at;
        private int numberAt;
        private boolean noiseTold;

        Text() {
            letters = new int[MOST_LETTERS];
            faultAt = NONE;
        }

        boolean put(int letter) {
            if (length >= MOST_LETTERS) {
                return false;
            }
            letters[length] = letter;
            length++;
            return true;
        }

        /** The kind of the first fault; 0: none. */
        int readInto(Valley into) {
            into.empty();
            at = 0;
            faultKind = 0;
            faultAt = NONE;
            noiseTold = false;
            skipBlanks();
            // A clause takes a letter at least, so there are no more clauses than letters.
            for (int clause = 0; clause < MOST_LETTERS && at < length && faultKind == 0; clause++) {
                readClause(into);
                skipBlanks();
            }
            return faultKind;
        }

        private void readClause(Valley into) {
            int word = letter();
            if (!isWord(word) || (into.width == 0 && word != 'g')) {
                failAt(at, MISPLACED);
            } else if (isOneTooMany(word, into)) {
                failAt(at, TOO_MANY);
            } else {
                readTold(word, into);
            }
        }

        private void readTold(int word, Valley into) {
            at++;
            switch (word) {
                case 'g':
                    readGround(into);
                    break;
                case 'l':
                    readLump(into);
                    break;
                case 'h':
                    readHearer(into);
                    break;
                default:
                    into.firstNoise = readNumber(0, MOST_NOISE);
                    noiseTold = true;
            }
            readEnd();
        }

        private void readGround(Valley into) {
            into.width = readNumber(1, MOST_SIDE);
            into.height = readNumber(1, MOST_SIDE);
            into.wall = readNumber(0, 1);
        }

        private void readLump(Valley into) {
            int x = readNumber(0, into.width - 1);
            int y = readNumber(0, into.height - 1);
            int cell = y * into.width + x;
            if (into.lumpOn(cell) != NONE) {
                failAt(numberAt, TAKEN);
            }
            int pitch = readNumber(0, PITCHES - 1);
            int size = readNumber(1, MOST_SIZE);
            into.addLump(cell, pitch, size);
        }

        private void readHearer(Valley into) {
            int x = readNumber(0, into.width - 1);
            int y = readNumber(0, into.height - 1);
            int ear = readNumber(GOOD_EAR, DEAF_EAR);
            into.addHearer(y * into.width + x, ear);
        }

        /** The next number, if it is within its bounds and nothing has failed; else the low one. */
        private int readNumber(int low, int high) {
            if (faultKind != 0) {
                return low;
            }
            skipBlanks();
            numberAt = at;
            int value = 0;
            int figures = 0;
            for (; at < length && isFigure(letter()); at++) {
                // A fourth figure is a fault already: more of them must not run over.
                value = figures < 3 ? value * 10 + letter() - '0' : value;
                figures++;
            }
            if (figures == 0) {
                failAt(at, MISPLACED);
                return low;
            }
            if (figures > 3 || value < low || value > high) {
                failAt(numberAt, BEYOND);
                return low;
            }
            return value;
        }

        private void readEnd() {
            skipBlanks();
            if (letter() == ';') {
                at++;
            } else {
                failAt(at, MISPLACED);
            }
        }

        private void skipBlanks() {
            while (at < length && letters[at] == ' ') {
                at++;
            }
        }

        /** The letter that is to be read; NONE at the end. */
        private int letter() {
            return at >= 0 && at < length && at < MOST_LETTERS ? letters[at] : NONE;
        }

        private boolean isOneTooMany(int word, Valley into) {
            switch (word) {
                case 'g': return into.width > 0;
                case 'l': return into.lumps >= MOST_LUMPS;
                case 'h': return into.hearers >= MOST_HEARERS;
                default: return noiseTold;
            }
        }

        private static boolean isWord(int letter) {
            return letter == 'g' || letter == 'l' || letter == 'h' || letter == 'n';
        }

        private static boolean isFigure(int letter) {
            return letter >= '0' && letter <= '9';
        }

        /** Only the first fault counts: the letters are read in their order. */
        private void failAt(int place, int kind) {
            if (faultKind == 0) {
                faultKind = kind;
                faultAt = place;
            }
        }
    }

    /** All that doings change and that undoing or an image brings back. */
    private static final class Moment {
        int wind;
        int noise;
        int hours;
        int digger;
        int out;
        final int[] place;

        Moment() {
            place = new int[MOST_HEARERS];
            noise = UNTOLD_NOISE;
        }

        void begin(Valley ground) {
            wind = 0;
            noise = ground.firstNoise;
            hours = 0;
            digger = 0;
            out = 0;
            System.arraycopy(ground.firstPlace, 0, place, 0, MOST_HEARERS);
        }

        void copy(Moment other) {
            wind = other.wind;
            noise = other.noise;
            hours = other.hours;
            digger = other.digger;
            out = other.out;
            System.arraycopy(other.place, 0, place, 0, MOST_HEARERS);
        }

        boolean isOut(int l) {
            return (out >> l & 1) == 1;
        }
    }

    /** The latest moments that can be gone back to: a ring, so that the oldest one is lost. */
    private static final class Past {
        private final Moment[] moments;
        private int oldest;
        int count;

        Past() {
            moments = new Moment[MOST_UNDONE];
            for (int m = 0; m < MOST_UNDONE; m++) {
                moments[m] = new Moment();
            }
        }

        void push(Moment now) {
            moments[(oldest + count) % MOST_UNDONE].copy(now);
            if (count < MOST_UNDONE) {
                count++;
            } else {
                oldest = (oldest + 1) % MOST_UNDONE;
            }
        }

        boolean popInto(Moment now) {
            if (count == 0) {
                return false;
            }
            count--;
            now.copy(moments[(oldest + count) % MOST_UNDONE]);
            return true;
        }

        void forget() {
            count = 0;
        }
    }

    /** What is kept to go on from. */
    private static final class Images {
        final Moment[] moments;
        final int[] seeds;
        final boolean[] kept;

        Images() {
            moments = new Moment[MOST_IMAGES];
            for (int i = 0; i < MOST_IMAGES; i++) {
                moments[i] = new Moment();
            }
            seeds = new int[MOST_IMAGES];
            kept = new boolean[MOST_IMAGES];
        }

        void forget() {
            for (int i = 0; i < MOST_IMAGES; i++) {
                kept[i] = false;
            }
        }
    }

    /** The hearings and the book. */
    private static final class Notes {
        int hearings;
        final int[] heardCell;
        final int[] heardPitch;
        final int[] heardLoud;
        int entries;
        final int[] entryHearer;
        final int[] entrySet;

        Notes() {
            heardCell = new int[MOST_HEARINGS];
            heardPitch = new int[MOST_HEARINGS];
            heardLoud = new int[MOST_HEARINGS];
            entryHearer = new int[MOST_ENTRIES];
            entrySet = new int[MOST_ENTRIES];
        }

        boolean putHearing(int cell, int pitch, int loud) {
            if (hearings >= MOST_HEARINGS) {
                return false;
            }
            heardCell[hearings] = cell;
            heardPitch[hearings] = pitch;
            heardLoud[hearings] = loud;
            hearings++;
            return true;
        }

        boolean putEntry(int h, int set) {
            if (entries >= MOST_ENTRIES) {
                return false;
            }
            entryHearer[entries] = h;
            entrySet[entries] = set;
            entries++;
            return true;
        }

        void forget() {
            hearings = 0;
            entries = 0;
        }
    }

    /** How a ring comes from a cell to a cell, straight and over the wall, be it of what size it may. */
    private static final class Way {
        private int near;
        private int far;
        private boolean blown;

        void lay(Valley ground, int wind, int from, int to) {
            int right = ground.column(to) - ground.column(from);
            int down = ground.row(to) - ground.row(from);
            near = 1 + Math.abs(right) + Math.abs(down);
            int overWall = 2 * ground.width - 1 - ground.column(to) - ground.column(from);
            far = ground.wall == 1 ? 1 + overWall + Math.abs(down) : 0;
            blown = isBlown(wind, right, down);
        }

        private static boolean isBlown(int wind, int right, int down) {
            switch (wind) {
                case 1: return right > 0;
                case 2: return down > 0;
                case 3: return right < 0;
                case 4: return down < 0;
                default: return false;
            }
        }

        int straight(int size) {
            int once = near > 0 ? 10 * size / near : 0;
            return blown ? 2 * once : once;
        }

        int back(int size) {
            return far > 0 ? 10 * size / far / 2 : 0;
        }
    }

    /** How loud what is where, now. */
    private static final class Sound {
        private final Valley ground;
        private final Moment now;
        private final Way way;
        private final int[] volume;
        private final int[] clash;

        Sound(Valley ground, Moment now) {
            this.ground = ground;
            this.now = now;
            way = new Way();
            volume = new int[PITCHES];
            clash = new int[MOST_LUMPS];
        }

        int ringOf(int l, int cell) {
            if (now.isOut(l)) {
                return 0;
            }
            way.lay(ground, now.wind, ground.lumpCell[l], cell);
            return way.straight(ground.lumpSize[l]);
        }

        int echoOf(int l, int cell) {
            if (now.isOut(l)) {
                return 0;
            }
            way.lay(ground, now.wind, ground.lumpCell[l], cell);
            return way.back(ground.lumpSize[l]);
        }

        int pitchAt(int cell, int pitch) {
            gather(cell, now.out, GOOD_EAR, true);
            return volume[pitch];
        }

        /** The pitches that a good ear would hear at a cell, if these lumps were out. */
        int heardAt(int cell, int out) {
            gather(cell, out, GOOD_EAR, true);
            return louderThan(now.noise);
        }

        int heardBy(int h, int moreNoise) {
            gather(now.place[h], now.out, ground.ear[h], true);
            return louderThan(now.noise + moreNoise);
        }

        int foolsOf(int h) {
            int heard = heardBy(h, 0);
            gather(now.place[h], now.out, ground.ear[h], false);
            return heard & ~louderThan(now.noise);
        }

        /** How loud each pitch comes to an ear at a cell, if these lumps are out. */
        private void gather(int cell, int out, int ear, boolean echoes) {
            Arrays.fill(volume, 0);
            if (ear == DEAF_EAR) {
                return;
            }
            for (int l = 0; l < ground.lumps; l++) {
                int from = ground.lumpCell[l];
                boolean missed = ear == LEFT_EAR && ground.column(from) > ground.column(cell);
                if ((out >> l & 1) == 0 && !missed) {
                    way.lay(ground, now.wind, from, cell);
                    int size = ground.lumpSize[l];
                    int more = echoes && ear == GOOD_EAR ? way.back(size) : 0;
                    volume[ground.lumpPitch[l]] += way.straight(size) + more;
                }
            }
        }

        private int louderThan(int noise) {
            int set = 0;
            for (int p = 0; p < PITCHES; p++) {
                if (volume[p] > noise) {
                    set |= 1 << p;
                }
            }
            return set;
        }

        /** The lumps of most size together of which none is louder than noise at another one. */
        int bestClaims() {
            int left = (1 << ground.lumps) - 1 & ~now.out;
            findClashes();
            int best = 0;
            int most = 0;
            for (int set = 1; set <= left; set++) {
                int size = ground.sizeOf(set);
                if ((set & ~left) == 0 && size > most && isAtPeace(set)) {
                    best = set;
                    most = size;
                }
            }
            return best;
        }

        private void findClashes() {
            Arrays.fill(clash, 0);
            for (int l = 0; l < ground.lumps; l++) {
                for (int other = 0; other < ground.lumps; other++) {
                    if (other != l && ringOf(l, ground.lumpCell[other]) > now.noise) {
                        clash[l] |= 1 << other;
                    }
                }
            }
        }

        private boolean isAtPeace(int set) {
            for (int l = 0; l < ground.lumps; l++) {
                if ((set >> l & 1) == 1 && (clash[l] & set) != 0) {
                    return false;
                }
            }
            return true;
        }
    }

    /** The fewest cells at which good ears hear all. */
    private static final class PostSearch {
        private final Valley ground;
        private final Moment now;
        private final Sound sound;
        private final int[] reach;
        /** At k times the sets and a set: the last cell from which on k cells hear that set; NONE. */
        private final int[] latest;
        final int[] found;
        int count;

        PostSearch(Valley ground, Moment now, Sound sound) {
            this.ground = ground;
            this.now = now;
            this.sound = sound;
            reach = new int[MOST_CELLS];
            latest = new int[(MOST_POSTS + 1) * LUMP_SETS];
            found = new int[MOST_POSTS];
        }

        void find() {
            int pitches = ringing();
            // There are no more pitches than lumps: packed side by side their sets are few enough for rows.
            int all = pack(pitches, pitches);
            for (int cell = 0; cell < ground.cells() && cell < MOST_CELLS; cell++) {
                reach[cell] = pack(sound.heardAt(cell, now.out), pitches);
            }
            for (int set = 0; set <= all; set++) {
                latest[set] = set == 0 ? ground.cells() : NONE;
            }
            count = 0;
            for (int k = 1; k <= MOST_POSTS && latest[count * LUMP_SETS + all] == NONE; k++) {
                fillRow(k, all);
                count = k;
            }
            if (latest[count * LUMP_SETS + all] == NONE) {
                count = NONE;
            }
            choose(all);
        }

        private int ringing() {
            int set = 0;
            for (int l = 0; l < ground.lumps; l++) {
                if (!now.isOut(l)) {
                    set |= 1 << ground.lumpPitch[l];
                }
            }
            return set;
        }

        private static int pack(int set, int pitches) {
            int packed = 0;
            int bit = 0;
            for (int p = 0; p < PITCHES; p++) {
                if ((pitches >> p & 1) == 1) {
                    packed |= (set >> p & 1) << bit;
                    bit++;
                }
            }
            return packed;
        }

        private void fillRow(int k, int all) {
            for (int set = 0; set <= all; set++) {
                int cell = ground.cells() - 1;
                while (cell >= 0 && !canStartAt(cell, k, set)) {
                    cell--;
                }
                latest[k * LUMP_SETS + set] = cell;
            }
        }

        /** Whether k cells, of which this is the first, hear the set. */
        private boolean canStartAt(int cell, int k, int set) {
            return latest[(k - 1) * LUMP_SETS + (set & ~reach[cell])] > cell;
        }

        private void choose(int all) {
            int set = all;
            int chosen = 0;
            for (int cell = 0; cell < ground.cells() && chosen < count; cell++) {
                if (canStartAt(cell, count - chosen, set)) {
                    found[chosen] = cell;
                    chosen++;
                    set &= ~reach[cell];
                }
            }
        }
    }

    /** The row of digging by which most gold is out within some hours. */
    private static final class DigSearch {
        /** The digger's own place, beside the lumps' places. */
        private static final int START = MOST_LUMPS;
        private static final int PLACES = MOST_LUMPS + 1;
        private static final int BASE = 8;
        private static final int FIRST_FIGURE = 262144;
        private static final int ENDLESS = 1000000;

        private final Valley ground;
        private final Moment now;
        private final int[] hoursTo;
        /** At a set times the places and a place: the fewest hours in which the set is dug out from there. */
        private final int[] hoursFor;
        int gold;
        /** The row as figures of base 8, each a lump and 1, so that of two rows the first has the lesser number. */
        private int row;

        DigSearch(Valley ground, Moment now) {
            this.ground = ground;
            this.now = now;
            hoursTo = new int[PLACES * MOST_LUMPS];
            hoursFor = new int[LUMP_SETS * PLACES];
        }

        void find(int n) {
            int left = (1 << ground.lumps) - 1 & ~now.out;
            measure();
            gold = 0;
            row = 0;
            int hours = 0;
            for (int set = 1; set <= left; set++) {
                if ((set & ~left) == 0) {
                    fill(set);
                    int its = hoursFor[set * PLACES + START];
                    int size = ground.sizeOf(set);
                    boolean more = size > gold || (size == gold && its < hours);
                    boolean like = size == gold && its == hours;
                    if (its <= n && (more || (like && rowOf(set) < row))) {
                        gold = size;
                        hours = its;
                        row = rowOf(set);
                    }
                }
            }
        }

        /** The i-th lump of the row; NONE: not so many. */
        int lumpAt(int i) {
            int figure = i >= 0 && i < MOST_LUMPS ? row >> 3 * (MOST_LUMPS - 1 - i) & BASE - 1 : 0;
            return figure == 0 ? NONE : figure - 1;
        }

        private void measure() {
            for (int place = 0; place < PLACES; place++) {
                for (int l = 0; l < ground.lumps; l++) {
                    hoursTo[place * MOST_LUMPS + l] = 1 + ground.apart(cellOf(place), ground.lumpCell[l]);
                }
            }
        }

        private int cellOf(int place) {
            return place < ground.lumps ? ground.lumpCell[place] : now.digger;
        }

        /** Its lesser sets come ahead of it, so their hours stand already. */
        private void fill(int set) {
            for (int place = 0; place < PLACES; place++) {
                if ((set >> place & 1) == 0) {
                    int fewest = ENDLESS;
                    for (int l = 0; l < ground.lumps; l++) {
                        if ((set >> l & 1) == 1) {
                            fewest = Math.min(fewest, hoursBy(set, place, l));
                        }
                    }
                    hoursFor[set * PLACES + place] = fewest;
                }
            }
        }

        /** The hours in which the set is dug out from a place, if this lump of it is the first. */
        private int hoursBy(int set, int place, int l) {
            return hoursTo[place * MOST_LUMPS + l] + hoursFor[(set ^ 1 << l) * PLACES + l];
        }

        private int rowOf(int set) {
            int rest = set;
            int place = START;
            int figures = 0;
            for (int weight = FIRST_FIGURE; weight > 0 && rest != 0; weight /= BASE) {
                int l = firstOf(rest, place);
                figures += (l + 1) * weight;
                rest &= ~(1 << l);
                place = l;
            }
            return figures;
        }

        /** The least lump of the set that may be the first of it without an hour more. */
        private int firstOf(int set, int place) {
            for (int l = 0; l < ground.lumps; l++) {
                if ((set >> l & 1) == 1 && hoursBy(set, place, l) == hoursFor[set * PLACES + place]) {
                    return l;
                }
            }
            return 0;
        }
    }

    /** Where one lump alone may lie, by the hearings of its pitch. */
    private static final class LieSearch {
        private static final int LOUD_ROOM = 256;

        private final Valley ground;
        private final Moment now;
        private final Notes notes;
        private final Way way;
        /** At a cell: the sizes that fit there, bit s for s. */
        private final int[] sizes;
        /** How many sound so loud; far more room than the 112 that one lump and its echo can sound. */
        private final int[] alike;
        int count;

        LieSearch(Valley ground, Moment now, Notes notes) {
            this.ground = ground;
            this.now = now;
            this.notes = notes;
            way = new Way();
            sizes = new int[MOST_CELLS];
            alike = new int[LOUD_ROOM];
        }

        void find(int pitch) {
            count = 0;
            for (int cell = 0; cell < ground.cells() && cell < MOST_CELLS; cell++) {
                sizes[cell] = sizesThatFit(cell, pitch);
                count += Integer.bitCount(sizes[cell]);
            }
        }

        private int sizesThatFit(int cell, int pitch) {
            int fit = (1 << MOST_SIZE + 1) - 2;
            for (int e = 0; e < notes.hearings; e++) {
                if (notes.heardPitch[e] == pitch) {
                    way.lay(ground, now.wind, cell, notes.heardCell[e]);
                    fit &= sizesThatSound(notes.heardLoud[e]);
                }
            }
            return fit;
        }

        private int sizesThatSound(int loud) {
            int set = 0;
            for (int size = 1; size <= MOST_SIZE; size++) {
                if (way.straight(size) + way.back(size) == loud) {
                    set |= 1 << size;
                }
            }
            return set;
        }

        /** The i-th that fits, 10 times its cell and its size; NONE: not so many. */
        int fitting(int i) {
            int before = 0;
            for (int cell = 0; cell < ground.cells() && cell < MOST_CELLS; cell++) {
                for (int size = 1; size <= MOST_SIZE; size++) {
                    if ((sizes[cell] >> size & 1) == 1) {
                        if (before == i) {
                            return 10 * cell + size;
                        }
                        before++;
                    }
                }
            }
            return NONE;
        }

        /** The cell at which those that fit are told apart best; NONE: none parts them. */
        int bestCell() {
            int best = NONE;
            int least = count;
            for (int cell = 0; cell < ground.cells(); cell++) {
                int greatest = greatestPartAt(cell, least);
                if (greatest < least) {
                    least = greatest;
                    best = cell;
                }
            }
            return best;
        }

        /** The greatest part that would sound alike there; no longer counted once it is as great as the bound. */
        private int greatestPartAt(int cell, int bound) {
            Arrays.fill(alike, 0);
            int greatest = 0;
            for (int from = 0; from < ground.cells() && from < MOST_CELLS && greatest < bound; from++) {
                if (sizes[from] != 0) {
                    way.lay(ground, now.wind, from, cell);
                    greatest = Math.max(greatest, countAlike(sizes[from]));
                }
            }
            return greatest;
        }

        private int countAlike(int set) {
            int greatest = 0;
            for (int size = 1; size <= MOST_SIZE; size++) {
                int loud = (set >> size & 1) == 1 ? way.straight(size) + way.back(size) : NONE;
                if (loud >= 0 && loud < LOUD_ROOM) {
                    alike[loud]++;
                    greatest = Math.max(greatest, alike[loud]);
                }
            }
            return greatest;
        }
    }
}
