/** An island that stands out of the sea at spring tides, and who owns it when. */
public final class SpringIsle {
    public static final int NONE = -1000000, BAD = -1000001, STATE = -1000002, FULL = -1000003;

    private static final int FINDING_BASE = -1000010, FAULT_BASE = -1000100;
    private static final int FOUND_NOTHING = 0, FOUND_NULL = 1, FOUND_PLACE = 2, FOUND_KIND = 3,
            FOUND_SIZE = 4, FOUND_STORE = 5;
    // -1, as a row tells that nobody is OWNER.
    private static final int NOBODY = -1;
    private static final int MOST_ROWS = 8, MOST_ITEMS = 40;
    private static final int MOST_CELLS = 6, MOST_BOATS = 6, MOST_HEIGHT = 40, MOST_SAND = 20;
    private static final int LAST_HOUR = 999, MOST_ACTS = 24, MOST_IMAGES = 2;
    private static final int MOST_WIND = 3, MOST_SPEED = 9;
    private static final int FAR = 60, NEAR = 40, TOLD = 12;
    private static final int MOST_SEED = 999999;
    private static final int SAIL = 1, CUTTER = 2, OARS = 3, FERRY = 4, RAFT = 5;

    private final Rows rows = new Rows();
    private final Tape tape = new Tape();
    private final Isle now;
    private final Acts acts = new Acts();
    private final Seer seer;
    private final Bodies bodies;
    private final Isle[] images = {new Isle(), new Isle()};
    private int latestFinding = FOUND_NOTHING;

    public SpringIsle() {
        Isle none = new Isle();
        now = none;
        seer = new Seer(none);
        bodies = new Bodies(none);
    }

    // ---- rows

    public int row(int row, int lane, int n) {
        if (!Rows.isRow(row) || !within(lane, 0, Rows.INTS) || n > MOST_ITEMS) return BAD;
        if (n < 0) return finding(FOUND_SIZE);
        rows.make(row, lane, n);
        return fine(n);
    }

    public int set(int row, int i, int v) {
        if (!Rows.isRow(row)) return BAD;
        if (rows.isMissing(row)) return finding(FOUND_NULL);
        if (!rows.hasPlaces(row, i, 1)) return finding(FOUND_PLACE);
        return fine(rows.put(row, i, v));
    }

    public int copy(int a, int i, int b, int j, int n) {
        if (!Rows.isRow(a) || !Rows.isRow(b)) return BAD;
        if (rows.isMissing(a) || rows.isMissing(b)) return finding(FOUND_NULL);
        if (!rows.sameLane(a, b)) return finding(FOUND_STORE);
        if (!rows.hasPlaces(a, i, n) || !rows.hasPlaces(b, j, n)) return finding(FOUND_PLACE);
        rows.move(a, i, b, j, n);
        return fine(n);
    }

    public int drop(int row) {
        if (!Rows.isRow(row)) return BAD;
        if (rows.isMissing(row)) return finding(FOUND_NULL);
        return fine(rows.lose(row));
    }

    // ---- what is told

    public int feed(int letter) {
        if (!within(letter, 0, 255)) return BAD;
        if (tape.isFull()) return FULL;
        return tape.add(letter);
    }

    public int isle() {
        Isle read = seer.blank();
        int place = tape.readInto(read);
        if (place != Tape.NO_FAULT) return FAULT_BASE - place;
        now.become(read);
        acts.forget();
        return now.boats;
    }

    public int fault() {
        return tape.latestFault;
    }

    public int undo() {
        if (acts.size < 1) return STATE;
        acts.takeBack(now);
        return acts.size;
    }

    // ---- what is done

    public int hours(int n) {
        if (!now.stands()) return STATE;
        if (!within(n, 1, 24)) return BAD;
        if (now.hour + n > LAST_HOUR) return FULL;
        for (int k = 0; k < n; k++) {
            acts.keep(now);
            now.pass();
        }
        return boatOrNone(now.owner);
    }

    public int send(int boat, int on) {
        if (!now.hasBoat(boat) || !within(on, 0, 1)) return BAD;
        if (now.isSent(boat) == (on == 1)) return STATE;
        acts.keep(now);
        now.sent ^= 1 << boat;
        return now.sent;
    }

    public int wind(int n) {
        if (!now.stands()) return STATE;
        if (!within(n, 0, MOST_WIND)) return BAD;
        acts.keep(now);
        int was = now.wind;
        now.wind = n;
        return was;
    }

    public int sand(int cell, int n) {
        if (!now.hasCell(cell) || !within(n, -MOST_SAND, MOST_SAND) || n == 0) return BAD;
        int then = now.height[cell] + n;
        if (!within(then, 0, MOST_HEIGHT)) return FULL;
        acts.keep(now);
        now.height[cell] = then;
        return then;
    }

    public int speed(int boat, int n) {
        if (!now.hasBoat(boat) || !within(n, 1, MOST_SPEED)) return BAD;
        acts.keep(now);
        int was = now.speed[boat];
        now.speed[boat] = n;
        return was;
    }

    public int boat(int boat, int what) {
        if (!now.hasBoat(boat)) return BAD;
        switch (what) {
            case 0: return now.off[boat];
            case 1: return now.speed[boat];
            case 2: return bit(now.isSent(boat));
            case 3: return now.wayOf(boat, now.showsBehind(0));
            case 4: return now.held[boat];
            case 5: return now.told[boat];
            default: return BAD;
        }
    }

    public int cell(int cell, int what) {
        if (!now.hasCell(cell)) return BAD;
        switch (what) {
            case 0: return now.height[cell];
            case 1: return bit(now.height[cell] > now.waterBehind(0));
            default: return BAD;
        }
    }

    public int stand(int what) {
        if (!now.stands()) return STATE;
        switch (what) {
            case 0: return now.waterBehind(0);
            case 1: return bit(now.showsBehind(0));
            case 2: return boatOrNone(now.owner);
            case 3: return now.wind;
            case 4: return now.sent;
            case 5: return now.boatsThere();
            default: return BAD;
        }
    }

    // ---- foretold

    public int ahead(int boat, int n) {
        if (!now.hasBoat(boat) || !within(n, 0, FAR)) return BAD;
        return seer.behind(n).off[boat];
    }

    public int owner(int n) {
        if (!now.stands()) return STATE;
        if (!within(n, 0, FAR)) return BAD;
        return boatOrNone(seer.behind(n).owner);
    }

    public int held(int boat, int n) {
        if (!now.hasBoat(boat) || !within(n, 0, FAR)) return BAD;
        return seer.behind(n).held[boat];
    }

    public int shows() {
        if (!now.stands()) return STATE;
        for (int k = 0; k <= FAR; k++) {
            if (now.showsBehind(k)) return k;
        }
        return NONE;
    }

    public int dry(int n) {
        if (!now.stands()) return STATE;
        if (!within(n, 1, FAR)) return BAD;
        int cells = 0;
        for (int k = 0; k < n; k++) cells |= now.dryBehind(k);
        return cells;
    }

    public int open(int n) {
        if (!now.stands()) return STATE;
        if (!within(n, 1, FAR)) return BAD;
        int hours = 0;
        for (int k = 0; k < n; k++) hours += bit(now.showsBehind(k));
        return hours;
    }

    public int first(int n) {
        if (!now.stands()) return STATE;
        if (!within(n, 1, FAR)) return BAD;
        return boatOrNone(seer.firstOwner(n));
    }

    public int latest(int boat, int n) {
        if (!now.hasBoat(boat) || !within(n, 1, NEAR)) return BAD;
        if (now.isSent(boat)) return STATE;
        for (int wait = n - 1; wait >= 0; wait--) {
            if (seer.ownsIfSentBehind(boat, wait, n)) return wait;
        }
        return NONE;
    }

    public int winds(int boat, int n) {
        if (!now.hasBoat(boat) || !within(n, 1, FAR)) return BAD;
        return seer.windsFor(boat, n);
    }

    public int recall(int boat, int n, int what) {
        if (!now.hasBoat(boat) || !within(n, 1, NEAR) || !within(what, 0, 1)) return BAD;
        return sizeOrSet(seer.fewestKeptHome(boat, n), what);
    }

    public int fleet(int n, int what) {
        if (!now.stands()) return STATE;
        if (!within(n, 1, NEAR) || !within(what, 0, 1)) return BAD;
        return sizeOrSet(seer.fewestSent(n), what);
    }

    public int sandFor(int n) {
        if (!now.stands()) return STATE;
        if (!within(n, 1, FAR)) return BAD;
        for (int height = 0; height <= MOST_HEIGHT; height++) {
            if (seer.showsAllBy(height, n)) return height;
        }
        return NONE;
    }

    public int who(int boat, int which, int row, int i, int n) {
        if (!now.hasBoat(boat) || !within(which, Seer.BY_KIND, Seer.BY_WIND)) return BAD;
        if (!Rows.isRow(row) || !within(n, 1, TOLD)) return BAD;
        if (rows.isMissing(row)) return finding(FOUND_NULL);
        if (!rows.hasPlaces(row, i, n)) return finding(FOUND_PLACE);
        return fine(seer.fitting(boat, which, rows.items[row], i, n));
    }

    public int barred(int row, int i, int n) {
        if (!now.stands()) return STATE;
        if (!Rows.isRow(row) || !within(n, 1, TOLD)) return BAD;
        if (rows.isMissing(row)) return finding(FOUND_NULL);
        if (!rows.hasPlaces(row, i, n)) return finding(FOUND_PLACE);
        return fine(seer.barring(rows.items[row], i, n));
    }

    public int rich() {
        if (!now.stands()) return STATE;
        int most = NOBODY;
        for (int b = 0; b < now.boats; b++) {
            if (now.held[b] > (most == NOBODY ? 0 : now.held[most])) most = b;
        }
        return boatOrNone(most);
    }

    public long wreck(int boat, int n, int p, int what) {
        if (!now.hasBoat(boat) || !within(n, 0, FAR)) return BAD;
        if (!within(p, 0, 10) || !within(what, 0, 1)) return BAD;
        long cases = seer.casesFor(boat, n, p);
        long all = seer.allCases();
        long shared = commonDivisor(all, cases);
        if (shared < 1) return BAD;
        return (what == 0 ? cases : all) / shared;
    }

    public int drawn(int n, int seed, int what) {
        if (!now.stands()) return STATE;
        if (!within(n, 0, FAR) || !within(seed, 1, MOST_SEED) || !within(what, 0, 1)) return BAD;
        return seer.years(n, seed, what == 1);
    }

    public int image(int k) {
        if (!within(k, 0, MOST_IMAGES - 1)) return BAD;
        if (!now.stands()) return STATE;
        images[k].become(now);
        return 1;
    }

    public int restore(int k) {
        if (!within(k, 0, MOST_IMAGES - 1)) return BAD;
        if (!images[k].stands()) return STATE;
        now.become(images[k]);
        acts.forget();
        return 1;
    }

    // ---- asked

    public int kind(int one) {
        return now.hasBoat(one) ? now.sort[one] : BAD;
    }

    public int as(int one, int kind) {
        if (!now.hasBoat(one) || !within(kind, 0, RAFT)) return BAD;
        if (!Bodies.isA(now.sort[one], kind)) return finding(FOUND_KIND);
        return fine(one);
    }

    public int ask(int one, int what) {
        if (!now.hasBoat(one) || !within(what, 0, 1)) return BAD;
        return bodies.answer(one, what == 1);
    }

    public int trace(int i) {
        return within(i, 0, bodies.traced - 1) ? bodies.track[i] : NONE;
    }

    public int count(int what) {
        switch (what) {
            case 0: return rows.present();
            case 1: return now.cells;
            case 2: return now.boats;
            case 3: return now.hour;
            case 4: return now.sent;
            case 5: return now.heldByAll();
            case 6: return acts.size;
            case 7: return tape.size;
            default: return BAD;
        }
    }

    public int status() {
        return latestFinding;
    }

    // ---- helpers

    private int finding(int number) {
        latestFinding = number;
        return FINDING_BASE - number;
    }

    private int fine(int answer) {
        latestFinding = FOUND_NOTHING;
        return answer;
    }

    private static boolean within(int v, int least, int most) {
        return v >= least && v <= most;
    }

    private static int bit(boolean so) {
        return so ? 1 : 0;
    }

    private static int boatOrNone(int boat) {
        return boat == NOBODY ? NONE : boat;
    }

    private static int sizeOrSet(int set, int what) {
        if (set == Seer.NO_SET) return NONE;
        return what == 0 ? Integer.bitCount(set) : set;
    }

    private static long commonDivisor(long a, long b) {
        // Euclid needs far fewer rounds than 64 for numbers up to a million.
        for (int k = 0; k < 64 && b != 0; k++) {
            long rest = a % b;
            a = b;
            b = rest;
        }
        return a;
    }

    /** The ROWS: each missing, or of a LANE with ITEMS. */
    private static final class Rows {
        static final int MISSING = -1, BYTES = 0, SHORTS = 1, INTS = 2;

        final int[][] items = new int[MOST_ROWS][MOST_ITEMS];
        final int[] lane = new int[MOST_ROWS];
        final int[] length = new int[MOST_ROWS];

        Rows() {
            for (int r = 0; r < MOST_ROWS; r++) lane[r] = MISSING;
        }

        static boolean isRow(int r) {
            return within(r, 0, MOST_ROWS - 1);
        }

        boolean isMissing(int r) {
            return lane[r] == MISSING;
        }

        boolean sameLane(int a, int b) {
            return lane[a] == lane[b];
        }

        boolean hasPlaces(int r, int i, int n) {
            // A difference, as the sum of i and n could wrap around.
            return n >= 0 && within(i, 0, length[r]) && n <= length[r] - i;
        }

        void make(int r, int newLane, int n) {
            lane[r] = newLane;
            length[r] = n;
            for (int i = 0; i < MOST_ITEMS; i++) items[r][i] = 0;
        }

        int put(int r, int i, int v) {
            int cut = lane[r] == BYTES ? (byte) v : lane[r] == SHORTS ? (short) v : v;
            items[r][i] = cut;
            return cut;
        }

        void move(int a, int i, int b, int j, int n) {
            System.arraycopy(items[a], i, items[b], j, n);
        }

        int lose(int r) {
            lane[r] = MISSING;
            return length[r];
        }

        int present() {
            int rows = 0;
            for (int r = 0; r < MOST_ROWS; r++) rows += bit(!isMissing(r));
            return rows;
        }
    }

    /** An ISLE with its boats in one HOUR; one without boats stands for none. */
    private static final class Isle {
        int period = 0, high = 0, wind = 0, hour = 0, owner = NOBODY, cells = 0, boats = 0;
        // Who is SENT, as bits.
        int sent = 0;
        final int[] height = new int[MOST_CELLS];
        final int[] sort = new int[MOST_BOATS];
        final int[] off = new int[MOST_BOATS];
        final int[] told = new int[MOST_BOATS];
        final int[] speed = new int[MOST_BOATS];
        final int[] held = new int[MOST_BOATS];

        void clear() {
            period = 0;
            high = 0;
            wind = 0;
            hour = 0;
            owner = NOBODY;
            cells = 0;
            boats = 0;
            sent = 0;
        }

        void become(Isle other) {
            period = other.period;
            high = other.high;
            wind = other.wind;
            hour = other.hour;
            owner = other.owner;
            cells = other.cells;
            boats = other.boats;
            sent = other.sent;
            System.arraycopy(other.height, 0, height, 0, MOST_CELLS);
            System.arraycopy(other.sort, 0, sort, 0, MOST_BOATS);
            System.arraycopy(other.off, 0, off, 0, MOST_BOATS);
            System.arraycopy(other.told, 0, told, 0, MOST_BOATS);
            System.arraycopy(other.speed, 0, speed, 0, MOST_BOATS);
            System.arraycopy(other.held, 0, held, 0, MOST_BOATS);
        }

        void addCell(int newHeight) {
            if (cells >= MOST_CELLS) return;
            height[cells] = newHeight;
            cells++;
        }

        void addBoat(int newSort, int newOff, int newSpeed) {
            if (boats >= MOST_BOATS) return;
            sort[boats] = newSort;
            off[boats] = newOff;
            told[boats] = newOff;
            speed[boats] = newSpeed;
            held[boats] = 0;
            boats++;
        }

        boolean stands() {
            return boats > 0;
        }

        boolean hasBoat(int b) {
            return b >= 0 && b < boats;
        }

        boolean hasCell(int c) {
            return c >= 0 && c < cells;
        }

        boolean isSent(int b) {
            return (sent >> b & 1) == 1;
        }

        int waterBehind(int n) {
            if (period < 1) return 0;
            int apart = 2 * ((hour + n) % period) - period;
            return high * (apart < 0 ? -apart : apart) / period;
        }

        int dryBehind(int n) {
            int water = waterBehind(n);
            int dryCells = 0;
            for (int c = 0; c < cells; c++) {
                if (height[c] > water) dryCells |= 1 << c;
            }
            return dryCells;
        }

        boolean showsBehind(int n) {
            int water = waterBehind(n);
            for (int c = 0; c < cells; c++) {
                if (height[c] > water) return true;
            }
            return false;
        }

        int wayOf(int b, boolean showing) {
            int sailing = speed[b] * wind / 2;
            int ferrying = showing ? speed[b] : 0;
            switch (sort[b]) {
                case SAIL: return sailing;
                case CUTTER: return wind == 0 ? sailing : sailing + 1;
                case OARS: return wind == 0 ? 2 + speed[b] / 2 : 2;
                case FERRY: return ferrying;
                default: return Math.max(0, ferrying - wind);
            }
        }

        void pass() {
            boolean showing = showsBehind(0);
            for (int b = 0; b < boats; b++) {
                if (isSent(b)) off[b] = Math.max(0, off[b] - wayOf(b, showing));
                else if (off[b] < told[b]) off[b]++;
            }
            owner = showing ? nextOwner() : NOBODY;
            if (owner != NOBODY) held[owner]++;
            hour++;
        }

        private int nextOwner() {
            if (hasBoat(owner) && off[owner] == 0) return owner;
            for (int b = 0; b < boats; b++) {
                if (off[b] == 0) return b;
            }
            return NOBODY;
        }

        void passAll(int n) {
            for (int k = 0; k < n; k++) pass();
        }

        int boatsThere() {
            int there = 0;
            for (int b = 0; b < boats; b++) {
                if (off[b] == 0) there |= 1 << b;
            }
            return there;
        }

        int heldByAll() {
            int all = 0;
            for (int b = 0; b < boats; b++) all += held[b];
            return all;
        }
    }

    /** THE TAPE, and how an ISLE is read from it. */
    private static final class Tape {
        static final int NO_FAULT = -1;
        private static final int MOST_BYTES = 120, THE_END = -1;
        private static final int CANNOT_STAND = 1, NOT_AS_TOLD = 2, NO_ROOM = 3;

        final int[] bytes = new int[MOST_BYTES];
        int size = 0;
        int latestFault = 0;
        private int at = 0;
        private int place = NO_FAULT;

        boolean isFull() {
            return size >= MOST_BYTES;
        }

        int add(int letter) {
            if (isFull()) return size;
            bytes[size] = letter;
            size++;
            return size;
        }

        /** Empties the tape; answers the place of the first FAULT, or NO_FAULT. */
        int readInto(Isle isle) {
            at = 0;
            place = NO_FAULT;
            boolean read = readLaw(isle) && readCells(isle) && readBoats(isle);
            size = 0;
            return read ? NO_FAULT : place;
        }

        private boolean readLaw(Isle isle) {
            if (!take('i')) return false;
            isle.period = number(2, 24);
            if (isle.period < 0 || !take(',')) return false;
            isle.high = number(1, 30);
            if (isle.high < 0 || !take(',')) return false;
            isle.wind = number(0, MOST_WIND);
            return isle.wind >= 0 && take(';');
        }

        private boolean readCells(Isle isle) {
            for (int c = 0; c < MOST_CELLS; c++) {
                if (c > 0 && next() != 'h') return true;
                if (!take('h')) return false;
                int height = number(0, 30);
                if (height < 0 || !take(';')) return false;
                isle.addCell(height);
            }
            return next() != 'h' || refuse(NO_ROOM);
        }

        private boolean readBoats(Isle isle) {
            for (int b = 0; b < MOST_BOATS; b++) {
                if (b > 0 && next() == THE_END) return true;
                int sort = sortOf(next());
                if (sort < 0) return refuse(CANNOT_STAND);
                at++;
                int off = number(0, 60);
                if (off < 0 || !take(',')) return false;
                int speed = number(1, MOST_SPEED);
                if (speed < 0 || !take(';')) return false;
                isle.addBoat(sort, off, speed);
            }
            return next() == THE_END || refuse(sortOf(next()) < 0 ? CANNOT_STAND : NO_ROOM);
        }

        private int next() {
            return at < size ? bytes[at] : THE_END;
        }

        private boolean take(int sign) {
            if (next() != sign) return refuse(CANNOT_STAND);
            at++;
            return true;
        }

        /** The NUMBER that stands next, or -1 with a FAULT. */
        private int number(int least, int most) {
            int end = at;
            int value = 0;
            while (end < size && within(bytes[end], '0', '9') && end - at < 3) {
                value = value * 10 + bytes[end] - '0';
                end++;
            }
            boolean isNumber = within(end - at, 1, 2);
            if (!isNumber || !within(value, least, most)) {
                refuse(isNumber ? NOT_AS_TOLD : CANNOT_STAND);
                return -1;
            }
            at = end;
            return value;
        }

        // Always false, so that what reads can end by it.
        private boolean refuse(int number) {
            latestFault = number;
            place = at;
            return false;
        }

        private static int sortOf(int letter) {
            switch (letter) {
                case 's': return SAIL;
                case 'c': return CUTTER;
                case 'o': return OARS;
                case 'f': return FERRY;
                case 'r': return RAFT;
                default: return -1;
            }
        }
    }

    /** The ISLE as it was ahead of each of the latest ACTS, in a ring. */
    private static final class Acts {
        private final Isle[] kept = new Isle[MOST_ACTS];
        private int end = 0;
        int size = 0;

        Acts() {
            for (int k = 0; k < MOST_ACTS; k++) kept[k] = new Isle();
        }

        void keep(Isle isle) {
            kept[end].become(isle);
            end = (end + 1) % MOST_ACTS;
            size = Math.min(size + 1, MOST_ACTS);
        }

        void takeBack(Isle isle) {
            if (size < 1) return;
            end = (end + MOST_ACTS - 1) % MOST_ACTS;
            size--;
            isle.become(kept[end]);
        }

        void forget() {
            size = 0;
        }
    }

    /** Foretells by letting HOURS pass on a second ISLE, so that nothing changes on the first. */
    private static final class Seer {
        static final int NO_SET = -1;
        static final int BY_KIND = 0, BY_SPEED = 1, BY_WIND = 2;
        private static final int AS_IT_IS = 64;
        private static final long FACTOR = 16807, MODULUS = 2147483647;

        private final Isle now;
        private final Isle then = new Isle();

        Seer(Isle now) {
            this.now = now;
        }

        Isle blank() {
            then.clear();
            return then;
        }

        Isle behind(int n) {
            then.become(now);
            then.passAll(n);
            return then;
        }

        private int ownerBySent(int sent, int n) {
            then.become(now);
            then.sent = sent;
            then.passAll(n);
            return then.owner;
        }

        int firstOwner(int n) {
            then.become(now);
            for (int k = 0; k < n && then.owner == NOBODY; k++) then.pass();
            return then.owner;
        }

        boolean ownsIfSentBehind(int boat, int wait, int n) {
            then.become(now);
            then.passAll(wait);
            then.sent |= 1 << boat;
            then.passAll(n - wait);
            return then.owner == boat;
        }

        int windsFor(int boat, int n) {
            int winds = 0;
            for (int w = 0; w <= MOST_WIND; w++) {
                then.become(now);
                then.wind = w;
                then.passAll(n);
                if (then.owner == boat) winds |= 1 << w;
            }
            return winds;
        }

        int fewestKeptHome(int boat, int n) {
            int others = now.sent & ~(1 << boat);
            int best = NO_SET;
            for (int set = 0; set < 1 << now.boats; set++) {
                if ((set & ~others) != 0 || !isFewer(set, best)) continue;
                if (ownerBySent(now.sent & ~set, n) == boat) best = set;
            }
            return best;
        }

        int fewestSent(int n) {
            int best = NO_SET;
            for (int set = 0; set < 1 << now.boats; set++) {
                if (isFewer(set, best) && ownerBySent(set, n) != NOBODY) best = set;
            }
            return best;
        }

        // Sets come from the least on, so that of sets of one size the least stays.
        private static boolean isFewer(int set, int best) {
            return best == NO_SET || Integer.bitCount(set) < Integer.bitCount(best);
        }

        boolean showsAllBy(int height, int n) {
            then.become(now);
            then.height[0] = height;
            for (int k = 0; k < n; k++) {
                if (!then.showsBehind(k)) return false;
            }
            return true;
        }

        int fitting(int boat, int which, int[] items, int i, int n) {
            int least = which == BY_WIND ? 0 : 1;
            int most = which == BY_KIND ? RAFT : which == BY_SPEED ? MOST_SPEED : MOST_WIND;
            int fit = 0;
            for (int v = least; v <= most; v++) {
                then.become(now);
                if (which == BY_KIND) then.sort[boat] = v;
                else if (which == BY_SPEED) then.speed[boat] = v;
                else then.wind = v;
                if (goesAsTold(items, i, n)) fit |= 1 << v;
            }
            return fit;
        }

        int barring(int[] items, int i, int n) {
            then.become(now);
            int set = goesAsTold(items, i, n) ? AS_IT_IS : 0;
            for (int b = 0; b < now.boats; b++) {
                if (!now.isSent(b)) continue;
                then.become(now);
                then.sent &= ~(1 << b);
                if (goesAsTold(items, i, n)) set |= 1 << b;
            }
            return set;
        }

        private boolean goesAsTold(int[] items, int i, int n) {
            for (int k = i; k < i + n && k < items.length; k++) {
                then.pass();
                if (then.owner != items[k]) return false;
            }
            return true;
        }

        long casesFor(int boat, int n, int p) {
            long cases = 0;
            for (int lost = 0; lost < 1 << now.boats; lost++) {
                if ((lost & ~now.sent) != 0) continue;
                long weight = weightOf(lost, p);
                if (weight > 0 && ownerBySent(now.sent & ~lost, n) == boat) cases += weight;
            }
            return cases;
        }

        private long weightOf(int lost, int p) {
            long weight = 1;
            for (int b = 0; b < now.boats; b++) {
                if (now.isSent(b)) weight *= (lost >> b & 1) == 1 ? p : 10 - p;
            }
            return weight;
        }

        long allCases() {
            long all = 1;
            for (int b = 0; b < now.boats; b++) {
                if (now.isSent(b)) all *= 10;
            }
            return all;
        }

        int years(int n, int seed, boolean turnsAsked) {
            then.become(now);
            long x = seed;
            int hoursHeld = 0;
            int turns = 0;
            int latestOwner = NOBODY;
            for (int k = 0; k < n; k++) {
                x = x * FACTOR % MODULUS;
                drawBy(x);
                then.pass();
                if (then.owner == NOBODY) continue;
                hoursHeld++;
                if (then.owner != latestOwner) turns++;
                latestOwner = then.owner;
            }
            return turnsAsked ? turns : hoursHeld;
        }

        private void drawBy(long x) {
            then.wind = (int) (x % 4);
            if (x % 5 == 0 && then.boats > 0) then.sent ^= 1 << (int) (x % then.boats);
        }
    }

    /** ASKS of BOATS by BODIES, and THE TRACE that they leave. */
    private static final class Bodies {
        private static final int[] NEXT_KIND = {-1, 0, 1, 1, 0, 4};
        private static final int[] SIZE_BODY = {10, 11, 12, 11, 13, 14};
        private static final int[] MARK_BODY = {20, 21, 24, 22, 23, 23};
        private static final int MOST_TRACED = 16, DEEPEST = 16;

        private final Isle now;
        final int[] track = new int[MOST_TRACED];
        int traced = 0;

        Bodies(Isle now) {
            this.now = now;
        }

        static boolean isA(int sort, int kind) {
            int is = sort;
            for (int k = 0; k < NEXT_KIND.length && is >= 0 && is < NEXT_KIND.length; k++) {
                if (is == kind) return true;
                is = NEXT_KIND[is];
            }
            return false;
        }

        int answer(int boat, boolean markAsked) {
            traced = 0;
            return markAsked ? markOf(boat, 0) : sizeOf(boat, 0);
        }

        private int sizeOf(int boat, int depth) {
            return run(SIZE_BODY[now.sort[boat]], boat, depth);
        }

        private int markOf(int boat, int depth) {
            return run(MARK_BODY[now.sort[boat]], boat, depth);
        }

        private int run(int body, int boat, int depth) {
            if (depth > DEEPEST) return 0;
            leave(body);
            int deeper = depth + 1;
            switch (body) {
                case 10: return now.speed[boat];
                case 11: return run(10, boat, deeper) + markOf(boat, deeper);
                case 12: return -run(11, boat, deeper);
                case 13: return run(10, boat, deeper) - 100;
                case 14: return 2 * run(13, boat, deeper);
                case 20: return boat;
                case 21: return run(20, boat, deeper) + now.off[boat];
                case 22: return run(21, boat, deeper) - 1000;
                case 23: return run(20, boat, deeper) - sizeOf(boat, deeper);
                case 24: return 2 * run(21, boat, deeper);
                default: return 0;
            }
        }

        private void leave(int body) {
            if (traced >= MOST_TRACED) return;
            track[traced] = body;
            traced++;
        }
    }
}
