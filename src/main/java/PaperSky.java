import java.util.Arrays;

/**
 * Ministries that float as balloons over a row of lands, as high as they burn paper.
 * Refusals are answers, never exceptions; an index is tested before it is used.
 */
public final class PaperSky {
    public static final int NONE = -1000000, BAD = -1000001, STATE = -1000002, FULL = -1000003;

    private static final int FINDINGS = -1000010;
    private static final int NULL = 1, PLACE = 2, KIND = 3, SIZE = 4, STORE = 5;
    private static final int FAULT_PLACES = -1000100;
    private static final int ROWS = 8, IMAGES = 2;
    private static final int LAST_HOUR = 999, MOST_FILES = 99;

    private final Row[] rows;
    private final Tape tape;
    private final Sky told;
    private final Sky now;
    private final Acts acts;
    private final Sky[] images;
    private final Foretold foretold;
    private final Asks asks;
    private int latestFault;
    private int latestFinding;

    public PaperSky() {
        rows = new Row[ROWS];
        for (int i = 0; i < ROWS; i++) {
            rows[i] = new Row();
        }
        tape = new Tape();
        told = new Sky();
        now = new Sky();
        acts = new Acts();
        images = new Sky[IMAGES];
        for (int k = 0; k < IMAGES; k++) {
            images[k] = new Sky();
        }
        foretold = new Foretold(now);
        asks = new Asks(now);
        latestFault = 0;
        latestFinding = 0;
    }

    // ---- rows

    public int row(int row, int lane, int n) {
        if (!isRow(row) || !within(lane, Row.BYTES, Row.INTS) || n > Row.ROOM) {
            return BAD;
        }
        if (n < 0) {
            return found(SIZE);
        }
        rows[row].begin(lane, n);
        return foundNothing(n);
    }

    public int set(int row, int i, int v) {
        if (!isRow(row)) {
            return BAD;
        }
        int finding = rows[row].findingOf(i, 1);
        if (finding != 0) {
            return found(finding);
        }
        return foundNothing(rows[row].put(i, v));
    }

    public int copy(int a, int i, int b, int j, int n) {
        if (!isRow(a) || !isRow(b)) {
            return BAD;
        }
        Row from = rows[a];
        Row to = rows[b];
        if (from.missing || to.missing) {
            return found(NULL);
        }
        if (from.lane != to.lane) {
            return found(STORE);
        }
        if (!from.spans(i, n) || !to.spans(j, n)) {
            return found(PLACE);
        }
        System.arraycopy(from.items, i, to.items, j, n);
        return foundNothing(n);
    }

    public int drop(int row) {
        if (!isRow(row)) {
            return BAD;
        }
        if (rows[row].missing) {
            return found(NULL);
        }
        rows[row].missing = true;
        return foundNothing(rows[row].length);
    }

    // ---- what is told

    public int feed(int letter) {
        if (!within(letter, 0, 255)) {
            return BAD;
        }
        return tape.add(letter);
    }

    public int sky() {
        int fault = tape.readInto(told);
        if (fault != 0) {
            latestFault = fault;
            return FAULT_PLACES - tape.place;
        }
        now.become(told);
        acts.forget();
        return now.offices;
    }

    public int fault() {
        return latestFault;
    }

    public int undo() {
        if (acts.kept == 0) {
            return STATE;
        }
        return acts.takeBack(now);
    }

    // ---- what is done

    public int hours(int n) {
        if (noSky()) {
            return STATE;
        }
        if (!within(n, 1, 24)) {
            return BAD;
        }
        if (now.hour + n > LAST_HOUR) {
            return FULL;
        }
        for (int i = 0; i < n; i++) {
            acts.keep(now);
            now.passHour();
        }
        return Integer.bitCount(now.floating());
    }

    public int burn(int office, int n) {
        if (!isOffice(office) || !within(n, 1, 20)) {
            return BAD;
        }
        if (now.files[office] < n) {
            return STATE;
        }
        acts.keep(now);
        now.useSheets(office, n);
        return now.heights[office];
    }

    public int send(int from, int to, int n) {
        if (!isOffice(from) || !isOffice(to) || from == to || !within(n, 1, 60)) {
            return BAD;
        }
        if (now.lands[from] != now.lands[to] || now.files[from] < n) {
            return STATE;
        }
        if (now.files[to] + n > MOST_FILES) {
            return FULL;
        }
        acts.keep(now);
        now.files[from] -= n;
        now.files[to] += n;
        return now.files[to];
    }

    public int wind(int band, int n) {
        if (noSky()) {
            return STATE;
        }
        if (!within(band, 0, Sky.BANDS - 1) || !within(n, 0, Sky.STRONGEST)) {
            return BAD;
        }
        int was = now.winds[band];
        acts.keep(now);
        now.winds[band] = n;
        return was;
    }

    public int office(int office, int what) {
        if (!isOffice(office)) {
            return BAD;
        }
        switch (what) {
            case 0: return now.lands[office];
            case 1: return now.heights[office];
            case 2: return now.files[office];
            case 3: return now.burnt[office];
            case 4: return Sky.bandOf(now.heights[office]);
            case 5: return Sky.liftOf(now.kinds[office], now.heights[office]);
            default: return BAD;
        }
    }

    public int land(int land) {
        if (noSky()) {
            return STATE;
        }
        return isLand(land) ? now.officesIn(land) : BAD;
    }

    // ---- foretold

    public int ahead(int office, int n, int what) {
        if (!isOffice(office) || !within(n, 0, Foretold.FARTHEST) || !isOneOfTwo(what)) {
            return BAD;
        }
        return what == 0 ? foretold.landBehind(office, n) : foretold.heightBehind(office, n);
    }

    public int down(int office) {
        return isOffice(office) ? foretold.hoursToGround(office) : BAD;
    }

    public int meet(int office, int other) {
        if (!isOffice(office) || !isOffice(other) || office == other) {
            return BAD;
        }
        return foretold.hoursToMeeting(office, other);
    }

    public int over(int land, int n) {
        if (noSky()) {
            return STATE;
        }
        if (!isLand(land) || !within(n, 0, Foretold.FARTHEST)) {
            return BAD;
        }
        return foretold.officesBehind(land, n);
    }

    public int above(int office, int land, int n, int h, int k) {
        if (!isOffice(office) || !isLand(land) || !within(n, 1, Foretold.LONGEST)
                || !within(h, 0, Sky.HIGHEST) || k < -1) {
            return BAD;
        }
        int plan = foretold.fewestPlan(office, land, n, h);
        if (plan == Foretold.NO_PLAN || k >= n) {
            return NONE;
        }
        return k == -1 ? Foretold.sheetsOf(plan) : Foretold.sheetsAhead(plan, n, k);
    }

    public int petition(int land, int row, int i, int n) {
        if (noSky()) {
            return STATE;
        }
        if (!isLand(land) || !isRow(row) || !within(n, 1, 8)) {
            return BAD;
        }
        int finding = rows[row].findingOf(i, n);
        if (finding != 0) {
            return found(finding);
        }
        for (int j = i; j < i + n; j++) {
            if (!isOffice(rows[row].items[j])) {
                return BAD;
            }
        }
        return foundNothing(foretold.hoursToPass(land, rows[row].items, i, n));
    }

    public int ash(int office, int row, int i, int n, int k) {
        if (!isOffice(office) || !isRow(row) || !within(n, 1, 6) || k < -1) {
            return BAD;
        }
        int finding = rows[row].findingOf(i, n);
        if (finding != 0) {
            return found(finding);
        }
        int ways = foretold.waysToBurn(office, rows[row].items, i, n);
        if (k == -1) {
            return foundNothing(ways);
        }
        return foundNothing(ways == 0 || k >= n ? NONE : foretold.firstWay[k]);
    }

    public int who(int office, int row, int i, int n, int s) {
        if (!isOffice(office) || !isRow(row) || !within(n, 1, 12) || !within(s, 0, 20)) {
            return BAD;
        }
        int finding = rows[row].findingOf(i, n);
        if (finding != 0) {
            return found(finding);
        }
        return foundNothing(foretold.kindsThatFit(now.heights[office], rows[row].items, i, n, s));
    }

    public int rule(int n, int what) {
        if (noSky()) {
            return STATE;
        }
        if (!within(n, 1, Foretold.FARTHEST) || !isOneOfTwo(what)) {
            return BAD;
        }
        int ruled = foretold.landRuled(n);
        return what == 0 ? ruled : foretold.stays[ruled];
    }

    public int lasts(int office) {
        if (!isOffice(office)) {
            return BAD;
        }
        return foretold.hoursUp(office, now.files[office], 99);
    }

    public int kept(int office, int n) {
        if (!isOffice(office) || !within(n, 1, 24)) {
            return BAD;
        }
        return foretold.fewestFiles(office, n);
    }

    public long turned(int office, int land, int n, int p, int what) {
        if (!isOffice(office) || !isLand(land) || !within(n, 1, Foretold.LONGEST)
                || !within(p, 0, 10) || !isOneOfTwo(what)) {
            return BAD;
        }
        int cases = foretold.casesInLand(office, land, n, p);
        int divisor = Foretold.commonDivisor(Foretold.ALL_CASES, cases);
        if (divisor == 0) {
            return BAD;
        }
        return (what == 0 ? cases : Foretold.ALL_CASES) / divisor;
    }

    public int drawn(int n, int seed, int what) {
        if (noSky()) {
            return STATE;
        }
        if (!within(n, 0, Foretold.FARTHEST) || !within(seed, 1, 999999) || !isOneOfTwo(what)) {
            return BAD;
        }
        int sheets = foretold.sheetsByDraws(n, seed);
        return what == 0 ? sheets : foretold.later.landsAdded();
    }

    public int image(int k) {
        if (!within(k, 0, IMAGES - 1)) {
            return BAD;
        }
        if (noSky()) {
            return STATE;
        }
        images[k].become(now);
        return 1;
    }

    public int restore(int k) {
        if (!within(k, 0, IMAGES - 1)) {
            return BAD;
        }
        if (images[k].offices == 0) {
            return STATE;
        }
        now.become(images[k]);
        acts.forget();
        return 1;
    }

    // ---- asked

    public int kind(int one) {
        return isOffice(one) ? now.kinds[one] : BAD;
    }

    public int as(int one, int kind) {
        if (!isOffice(one) || !within(kind, Kinds.OFFICE, Kinds.ARCHIVE)) {
            return BAD;
        }
        if (!Kinds.isSuch(now.kinds[one], kind)) {
            return found(KIND);
        }
        return foundNothing(one);
    }

    public int ask(int one, int what) {
        if (!isOffice(one) || !isOneOfTwo(what)) {
            return BAD;
        }
        return asks.begin(one, what);
    }

    public int trace(int i) {
        return i >= 0 && i < asks.left ? asks.numbers[i] : NONE;
    }

    public int count(int what) {
        switch (what) {
            case 0: return rowsThatAre();
            case 1: return now.offices;
            case 2: return now.sinks;
            case 3: return now.hour;
            case 4: return now.allBurnt();
            case 5: return now.floating();
            case 6: return acts.kept;
            case 7: return tape.length;
            default: return BAD;
        }
    }

    public int status() {
        return latestFinding;
    }

    // ---- within

    private static boolean within(int number, int least, int most) {
        return number >= least && number <= most;
    }

    private static boolean isRow(int row) {
        return within(row, 0, ROWS - 1);
    }

    private static boolean isLand(int land) {
        return within(land, 0, Sky.LANDS - 1);
    }

    private static boolean isOneOfTwo(int what) {
        return within(what, 0, 1);
    }

    private boolean isOffice(int office) {
        return within(office, 0, now.offices - 1);
    }

    private boolean noSky() {
        return now.offices == 0;
    }

    private int found(int finding) {
        latestFinding = finding;
        return FINDINGS - finding;
    }

    private int foundNothing(int answer) {
        latestFinding = 0;
        return answer;
    }

    private int rowsThatAre() {
        int are = 0;
        for (int i = 0; i < ROWS; i++) {
            if (!rows[i].missing) {
                are++;
            }
        }
        return are;
    }

    /** A row of numbers; made once and used again, so that a call makes no object. */
    private static final class Row {
        static final int ROOM = 40;
        static final int BYTES = 0, SHORTS = 1, INTS = 2;

        boolean missing = true;
        int lane;
        int length;
        final int[] items = new int[ROOM];

        void begin(int newLane, int n) {
            missing = false;
            lane = newLane;
            length = n;
            Arrays.fill(items, 0);
        }

        int findingOf(int i, int n) {
            if (missing) {
                return NULL;
            }
            return spans(i, n) ? 0 : PLACE;
        }

        /** Written without i + n, which could wrap around. */
        boolean spans(int i, int n) {
            return i >= 0 && n >= 0 && n <= length && i <= length - n;
        }

        int put(int i, int v) {
            items[i] = cut(v);
            return items[i];
        }

        private int cut(int v) {
            switch (lane) {
                case BYTES: return (byte) v;
                case SHORTS: return (short) v;
                default: return v;
            }
        }
    }

    /** The bytes of a text that tells a sky, and their reader. */
    private static final class Tape {
        static final int ROOM = 100;
        private static final int MISPLACED = 1, NOT_AS_TOLD = 2, TOO_MANY = 3;

        final int[] bytes = new int[ROOM];
        int length;
        /** Where the next token begins; behind a fault, where the faulty one does. */
        int place;
        private int fault;

        int add(int letter) {
            if (length >= ROOM) {
                return FULL;
            }
            bytes[length] = letter;
            length++;
            return length;
        }

        /** The number of the fault, 0 if there is none; the tape is empty then. */
        int readInto(Sky told) {
            place = 0;
            fault = 0;
            told.begin();
            readLaw(told);
            readOffice(told);
            for (int more = 0; more < Sky.MOST_OFFICES && fault == 0 && place < length; more++) {
                readOffice(told);
            }
            length = 0;
            return fault;
        }

        private void readLaw(Sky told) {
            takeByte('w');
            for (int band = 0; band < Sky.BANDS; band++) {
                told.winds[band] = takeNumber(Sky.STRONGEST);
                takeByte(',');
            }
            told.sinks = takeNumber(3);
            takeByte(';');
        }

        private void readOffice(Sky told) {
            int kind = takeSort(told.offices);
            int land = takeNumber(Sky.LANDS - 1);
            takeByte(',');
            int height = takeNumber(Sky.HIGHEST);
            takeByte(',');
            int files = takeNumber(60);
            takeByte(';');
            if (fault == 0) {
                told.addOffice(kind, land, height, files);
            }
        }

        private int takeSort(int offices) {
            if (fault != 0) {
                return Kinds.OFFICE;
            }
            int kind = place < length ? Kinds.ofLetter(bytes[place]) : Kinds.OFFICE;
            if (kind == Kinds.OFFICE) {
                fault = MISPLACED;
            } else if (offices >= Sky.MOST_OFFICES) {
                fault = TOO_MANY;
            } else {
                place++;
            }
            return kind;
        }

        private void takeByte(int due) {
            if (fault != 0) {
                return;
            }
            if (place < length && bytes[place] == due) {
                place++;
            } else {
                fault = MISPLACED;
            }
        }

        private int takeNumber(int most) {
            if (fault != 0) {
                return 0;
            }
            int figures = figuresHere();
            if (figures == 0 || figures > 2) {
                fault = MISPLACED;
                return 0;
            }
            int value = 0;
            for (int i = place; i < place + figures; i++) {
                value = value * 10 + bytes[i] - '0';
            }
            if (value > most) {
                fault = NOT_AS_TOLD;
                return 0;
            }
            place += figures;
            return value;
        }

        /** Three stand for any longer run, which is no token either. */
        private int figuresHere() {
            int figures = 0;
            while (figures < 3 && place + figures < length && isFigure(bytes[place + figures])) {
                figures++;
            }
            return figures;
        }

        private static boolean isFigure(int letter) {
            return letter >= '0' && letter <= '9';
        }
    }

    /** Which kind is which other one, too. */
    private static final class Kinds {
        static final int OFFICE = 0, BUREAU = 1, FRUGAL = 2, LETTERS = 3, DAMP = 4, ARCHIVE = 5;
        static final int HOW_MANY = 6;
        /** By kind: the kind that it is, too. */
        private static final int[] NEAREST = {0, 0, 1, 1, 0, 4};

        /** OFFICE, which no letter tells, stands for a letter that is no sort. */
        static int ofLetter(int letter) {
            switch (letter) {
                case 'b': return BUREAU;
                case 'f': return FRUGAL;
                case 'l': return LETTERS;
                case 'd': return DAMP;
                case 'a': return ARCHIVE;
                default: return OFFICE;
            }
        }

        static int nearest(int kind) {
            return kind >= 0 && kind < HOW_MANY ? NEAREST[kind] : OFFICE;
        }

        static boolean isSuch(int kind, int wanted) {
            int such = kind;
            for (int i = 0; i < HOW_MANY && such != wanted && such != OFFICE; i++) {
                such = nearest(such);
            }
            return such == wanted;
        }
    }

    /** All that an hour or an act can change; no offices: there is no sky. */
    private static final class Sky {
        static final int MOST_OFFICES = 5, LANDS = 10, BANDS = 4, HIGHEST = 20;
        static final int STRONGEST = 4, STILL = 2;

        int offices;
        int sinks;
        int hour;
        final int[] winds = new int[BANDS];
        final int[] kinds = new int[MOST_OFFICES];
        final int[] lands = new int[MOST_OFFICES];
        final int[] heights = new int[MOST_OFFICES];
        final int[] files = new int[MOST_OFFICES];
        final int[] burnt = new int[MOST_OFFICES];

        void begin() {
            offices = 0;
            sinks = 0;
            hour = 0;
        }

        void addOffice(int kind, int land, int height, int itsFiles) {
            if (offices >= MOST_OFFICES) {
                return;
            }
            kinds[offices] = kind;
            lands[offices] = land;
            heights[offices] = height;
            files[offices] = itsFiles;
            burnt[offices] = 0;
            offices++;
        }

        void become(Sky other) {
            offices = other.offices;
            sinks = other.sinks;
            hour = other.hour;
            System.arraycopy(other.winds, 0, winds, 0, BANDS);
            System.arraycopy(other.kinds, 0, kinds, 0, MOST_OFFICES);
            System.arraycopy(other.lands, 0, lands, 0, MOST_OFFICES);
            System.arraycopy(other.heights, 0, heights, 0, MOST_OFFICES);
            System.arraycopy(other.files, 0, files, 0, MOST_OFFICES);
            System.arraycopy(other.burnt, 0, burnt, 0, MOST_OFFICES);
        }

        void passHour() {
            for (int o = 0; o < offices; o++) {
                heights[o] = sunk(heights[o]);
                lands[o] = carried(lands[o], heights[o]);
            }
            hour++;
        }

        void useSheets(int o, int sheets) {
            files[o] -= sheets;
            burnt[o] += sheets;
            heights[o] = lifted(kinds[o], heights[o], sheets);
        }

        int sunk(int height) {
            return Math.max(0, height - sinks);
        }

        int carried(int land, int height) {
            return moved(land, driftAt(height));
        }

        /** By how many lands the wind carries; nothing is carried on the ground. */
        int driftAt(int height) {
            return height > 0 ? winds[bandOf(height)] - STILL : 0;
        }

        static int moved(int land, int by) {
            return Math.max(0, Math.min(LANDS - 1, land + by));
        }

        static int bandOf(int height) {
            if (height < 6) {
                return 0;
            }
            if (height < 11) {
                return 1;
            }
            return height < 16 ? 2 : 3;
        }

        static int liftOf(int kind, int height) {
            switch (kind) {
                case Kinds.BUREAU: return 2;
                case Kinds.LETTERS: return 3;
                case Kinds.ARCHIVE: return height > 5 ? 0 : 1;
                default: return 1;
            }
        }

        static int lifted(int kind, int height, int sheets) {
            int high = height;
            for (int i = 0; i < sheets; i++) {
                high = Math.min(HIGHEST, high + liftOf(kind, high));
            }
            return high;
        }

        int officesIn(int land) {
            int bits = 0;
            for (int o = 0; o < offices; o++) {
                if (lands[o] == land) {
                    bits |= 1 << o;
                }
            }
            return bits;
        }

        int floating() {
            int bits = 0;
            for (int o = 0; o < offices; o++) {
                if (heights[o] > 0) {
                    bits |= 1 << o;
                }
            }
            return bits;
        }

        int allBurnt() {
            int sum = 0;
            for (int o = 0; o < offices; o++) {
                sum += burnt[o];
            }
            return sum;
        }

        int landsAdded() {
            int sum = 0;
            for (int o = 0; o < offices; o++) {
                sum += lands[o];
            }
            return sum;
        }
    }

    /** The skies ahead of the latest acts, in a ring. */
    private static final class Acts {
        private static final int ROOM = 24;

        int kept;
        private int latest;
        private final Sky[] before = new Sky[ROOM];

        Acts() {
            for (int i = 0; i < ROOM; i++) {
                before[i] = new Sky();
            }
        }

        void forget() {
            kept = 0;
        }

        void keep(Sky sky) {
            latest = latest < ROOM - 1 ? latest + 1 : 0;
            before[latest].become(sky);
            kept = Math.min(ROOM, kept + 1);
        }

        int takeBack(Sky sky) {
            sky.become(before[latest]);
            latest = latest > 0 ? latest - 1 : ROOM - 1;
            kept--;
            return kept;
        }
    }

    /** What would come; nothing of the sky that is now is changed. */
    private static final class Foretold {
        static final int FARTHEST = 60, LONGEST = 12, ALL_CASES = 10000;
        private static final int MOST_SHEETS = 3, HEIGHTS = Sky.HIGHEST + 1;
        /** How many rows of 12 hours there are, with 0 to 3 sheets ahead of each. */
        private static final int PLAN_ROWS = 1 << 2 * LONGEST;
        static final int NO_PLAN = 2147483647;

        private final Sky now;
        final Sky later = new Sky();
        final int[] firstWay = new int[LONGEST];
        final int[] stays = new int[Sky.LANDS];
        /**
         * By land and height, of one hour and of the next, in turn: a plan, which is the sum of
         * its sheets above the row of them as base-4 figures, so that the least plan is the first
         * row of the fewest sheets.
         */
        private final int[][] plans = new int[2][Sky.LANDS * HEIGHTS];

        Foretold(Sky now) {
            this.now = now;
        }

        int landBehind(int office, int n) {
            int land = now.lands[office];
            int height = now.heights[office];
            for (int i = 0; i < n; i++) {
                height = now.sunk(height);
                land = now.carried(land, height);
            }
            return land;
        }

        int heightBehind(int office, int n) {
            int height = now.heights[office];
            for (int i = 0; i < n; i++) {
                height = now.sunk(height);
            }
            return height;
        }

        int hoursToGround(int office) {
            int height = now.heights[office];
            for (int gone = 0; gone <= FARTHEST; gone++) {
                if (height == 0) {
                    return gone;
                }
                height = now.sunk(height);
            }
            return NONE;
        }

        int hoursToMeeting(int office, int other) {
            later.become(now);
            for (int gone = 0; gone <= FARTHEST; gone++) {
                if (later.lands[office] == later.lands[other]
                        && later.heights[office] == later.heights[other]) {
                    return gone;
                }
                later.passHour();
            }
            return NONE;
        }

        int officesBehind(int land, int n) {
            later.become(now);
            for (int i = 0; i < n; i++) {
                later.passHour();
            }
            return Integer.bitCount(later.officesIn(land));
        }

        /** The least plan, hour by hour, for each place that can be come to. */
        int fewestPlan(int office, int land, int n, int least) {
            Arrays.fill(plans[0], NO_PLAN);
            plans[0][now.lands[office] * HEIGHTS + now.heights[office]] = 0;
            for (int step = 0; step < n; step++) {
                spreadAll(office, plans[step & 1], plans[step + 1 & 1]);
            }
            int fewest = NO_PLAN;
            for (int height = least; height < HEIGHTS; height++) {
                fewest = Math.min(fewest, plans[n & 1][land * HEIGHTS + height]);
            }
            return fewest;
        }

        private void spreadAll(int office, int[] here, int[] behind) {
            Arrays.fill(behind, NO_PLAN);
            for (int land = 0; land < Sky.LANDS; land++) {
                for (int height = 0; height < HEIGHTS; height++) {
                    int plan = here[land * HEIGHTS + height];
                    if (plan != NO_PLAN) {
                        spread(office, land, height, plan, behind);
                    }
                }
            }
        }

        private void spread(int office, int land, int height, int plan, int[] behind) {
            int most = Math.min(MOST_SHEETS, now.files[office] - sheetsOf(plan));
            int high = height;
            for (int sheets = 0; sheets <= most; sheets++) {
                int next = now.sunk(high);
                int at = now.carried(land, next) * HEIGHTS + next;
                behind[at] = Math.min(behind[at], longer(plan, sheets));
                high = Sky.lifted(now.kinds[office], high, 1);
            }
        }

        private static int longer(int plan, int sheets) {
            int row = plan % PLAN_ROWS;
            return (sheetsOf(plan) + sheets) * PLAN_ROWS + row * 4 + sheets;
        }

        static int sheetsOf(int plan) {
            return plan / PLAN_ROWS;
        }

        static int sheetsAhead(int plan, int n, int k) {
            return plan >> 2 * (n - 1 - k) & 3;
        }

        int hoursToPass(int land, int[] readers, int i, int n) {
            later.become(now);
            int next = i;
            for (int gone = 0; gone <= FARTHEST; gone++) {
                while (next < i + n && reads(readers[next], land)) {
                    next++;
                }
                if (next == i + n) {
                    return gone;
                }
                later.passHour();
            }
            return NONE;
        }

        private boolean reads(int office, int land) {
            return later.lands[office] == land && Sky.bandOf(later.heights[office]) == 0;
        }

        /** How many rows of sheets fit; the first one is left in firstWay. */
        int waysToBurn(int office, int[] told, int i, int n) {
            int kind = now.kinds[office];
            int height = now.heights[office];
            int ways = 1;
            for (int step = 0; step < n; step++) {
                int fitting = 0;
                for (int sheets = MOST_SHEETS; sheets >= 0; sheets--) {
                    if (now.sunk(Sky.lifted(kind, height, sheets)) == told[i + step]) {
                        fitting++;
                        firstWay[step] = sheets;
                    }
                }
                if (fitting == 0) {
                    return 0;
                }
                ways *= fitting;
                height = told[i + step];
            }
            return ways;
        }

        int kindsThatFit(int height, int[] told, int i, int n, int sheets) {
            int bits = 0;
            for (int kind = Kinds.BUREAU; kind <= Kinds.ARCHIVE; kind++) {
                if (comesSo(Sky.lifted(kind, height, sheets), told, i, n)) {
                    bits |= 1 << kind;
                }
            }
            return bits;
        }

        private boolean comesSo(int height, int[] told, int i, int n) {
            int high = height;
            for (int j = i; j < i + n; j++) {
                high = now.sunk(high);
                if (high != told[j]) {
                    return false;
                }
            }
            return true;
        }

        /** The land with most stays, whose numbers are left in stays. */
        int landRuled(int n) {
            Arrays.fill(stays, 0);
            later.become(now);
            for (int i = 0; i < n; i++) {
                later.passHour();
                for (int o = 0; o < later.offices; o++) {
                    stays[later.lands[o]]++;
                }
            }
            int ruled = 0;
            for (int land = 1; land < Sky.LANDS; land++) {
                if (stays[land] > stays[ruled]) {
                    ruled = land;
                }
            }
            return ruled;
        }

        /** One that is at 0 now burns nothing: its hours up are over. */
        int hoursUp(int office, int files, int most) {
            int height = now.heights[office];
            int left = files;
            if (height == 0) {
                return 0;
            }
            for (int up = 0; up < most; up++) {
                if (now.sunk(height) == 0 && left > 0) {
                    height = Sky.lifted(now.kinds[office], height, 1);
                    left--;
                }
                height = now.sunk(height);
                if (height == 0) {
                    return up;
                }
            }
            return most;
        }

        int fewestFiles(int office, int n) {
            for (int files = 0; files <= 60; files++) {
                if (hoursUp(office, files, n) >= n) {
                    return files;
                }
            }
            return NONE;
        }

        /** Of ALL_CASES: a band that is turned is so for all the hours. */
        int casesInLand(int office, int land, int n, int p) {
            int cases = 0;
            for (int turnedBands = 0; turnedBands < 1 << Sky.BANDS; turnedBands++) {
                if (landIfTurned(office, n, turnedBands) == land) {
                    cases += casesOf(turnedBands, p);
                }
            }
            return cases;
        }

        private int landIfTurned(int office, int n, int turnedBands) {
            int land = now.lands[office];
            int height = now.heights[office];
            for (int i = 0; i < n; i++) {
                height = now.sunk(height);
                int drift = now.driftAt(height);
                boolean turns = (turnedBands >> Sky.bandOf(height) & 1) == 1;
                land = Sky.moved(land, turns ? -drift : drift);
            }
            return land;
        }

        private static int casesOf(int turnedBands, int p) {
            int cases = 1;
            for (int band = 0; band < Sky.BANDS; band++) {
                cases *= (turnedBands >> band & 1) == 1 ? p : 10 - p;
            }
            return cases;
        }

        /** Not 0, as a is above 0; b may be 0. */
        static int commonDivisor(int a, int b) {
            int divisor = a;
            int left = b;
            for (int i = 0; i < 100 && left != 0; i++) {
                int next = divisor % left;
                divisor = left;
                left = next;
            }
            return divisor;
        }

        /** How many sheets are burnt; how all stands then is left in later. */
        int sheetsByDraws(int n, int seed) {
            later.become(now);
            int sum = 0;
            long x = seed;
            for (int i = 0; i < n && later.offices > 0; i++) {
                x = x * 16807 % 2147483647;
                int office = (int) (x % later.offices);
                int sheets = Math.min((int) (x % 4), later.files[office]);
                later.useSheets(office, sheets);
                sum += sheets;
                later.passHour();
            }
            return sum;
        }
    }

    /** What is asked of offices, by bodies, each of which leaves its number. */
    private static final class Asks {
        private static final int ASK_SIZE = 0, ASK_MARK = 1;
        private static final int ROOM = 16, DEEPEST = 20;
        /** By kind: the body told for it, 0 where none is. */
        private static final int[] SIZE_BODIES = {10, 11, 12, 0, 13, 14};
        private static final int[] MARK_BODIES = {20, 21, 24, 22, 23, 0};

        private final Sky now;
        final int[] numbers = new int[ROOM];
        int left;

        Asks(Sky now) {
            this.now = now;
        }

        int begin(int one, int what) {
            left = 0;
            return give(bodyFor(one, what), one, 0);
        }

        private int bodyFor(int one, int what) {
            int kind = now.kinds[one];
            for (int i = 0; i < Kinds.HOW_MANY && toldBody(kind, what) == 0; i++) {
                kind = Kinds.nearest(kind);
            }
            return toldBody(kind, what);
        }

        private static int toldBody(int kind, int what) {
            if (kind < 0 || kind >= Kinds.HOW_MANY) {
                return 0;
            }
            return what == ASK_SIZE ? SIZE_BODIES[kind] : MARK_BODIES[kind];
        }

        /** What a body gives; those within it are asked of the same office anew. */
        private int give(int body, int one, int depth) {
            if (depth > DEEPEST) {
                return 0;
            }
            leave(body);
            int deeper = depth + 1;
            switch (body) {
                case 10: return now.files[one];
                case 11: return give(10, one, deeper) + give(bodyFor(one, ASK_MARK), one, deeper);
                case 12: return -give(11, one, deeper);
                case 13: return give(10, one, deeper) - 100;
                case 14: return give(13, one, deeper) * 2;
                case 20: return one;
                case 21: return give(20, one, deeper) + now.heights[one];
                case 22: return give(21, one, deeper) - 1000;
                case 23: return give(20, one, deeper) - give(bodyFor(one, ASK_SIZE), one, deeper);
                case 24: return give(21, one, deeper) * 2;
                default: return 0;
            }
        }

        private void leave(int body) {
            if (left < ROOM) {
                numbers[left] = body;
                left++;
            }
        }
    }
}
