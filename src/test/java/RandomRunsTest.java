import java.lang.reflect.InvocationTargetException;
import java.lang.reflect.Method;
import java.util.ArrayDeque;
import java.util.ArrayList;
import java.util.Arrays;
import java.util.Comparator;
import java.util.Deque;
import java.util.List;
import java.util.Random;

/**
 * Long runs of calls, drawn by fixed seeds, on the program and on a model of the document that is
 * built otherwise (boats as classes, copies in place of rings, sets sorted in place of searched).
 */
public final class RandomRunsTest {
    private static final int RUNS = 1500, CALLS = 512;
    private static final int NONE = -1000000, BAD = -1000001, STATE = -1000002, FULL = -1000003;

    public static void main(String[] args) throws Exception {
        for (int run = 0; run < RUNS; run++) {
            if (!runAgrees(run)) System.exit(1);
        }
        System.out.println(RUNS + " runs agree with the model");
    }

    private static boolean runAgrees(int seed) throws Exception {
        Random random = new Random(seed);
        Run run = new Run();
        Method[] methods = publicMethods();
        while (run.agree && run.calls.size() < CALLS) {
            int scene = random.nextInt(60);
            if (run.calls.isEmpty() ? scene != 0 : scene == 0) tellText(run, random);
            else if (scene < 4) sendMany(run, random);
            else if (scene < 8) tellOwners(run, random);
            else callAny(run, methods[random.nextInt(methods.length)], random);
        }
        return run.agree;
    }

    private static void tellText(Run run, Random random) throws Exception {
        for (char c : Texts.any(random).toCharArray()) run.call("feed", (int) c);
        run.call("isle");
    }

    private static void sendMany(Run run, Random random) throws Exception {
        for (int b = 0; b < run.model.count(2); b++) {
            if (random.nextInt(4) != 0) run.call("send", b, 1);
        }
    }

    /** A row of owners as they come if one thing is otherwise, and what is asked by it. */
    private static void tellOwners(Run run, Random random) throws Exception {
        if (run.model.sea == null) return;
        Sea then = run.model.sea.twin();
        int boats = then.boats.size();
        int boat = random.nextInt(boats);
        int how = random.nextInt(4);
        if (how == 0) then.wind = random.nextInt(4);
        if (how == 1) then.boats.get(boat).speed = 1 + random.nextInt(9);
        if (how == 2) then.boats.get(boat).sent = false;
        int row = random.nextInt(3);
        int n = 1 + random.nextInt(random.nextBoolean() ? 5 : 12);
        run.call("row", row, random.nextInt(3), n);
        for (int k = 0; k < n; k++) run.call("set", row, k, then.on(1).ownerNumber(-1));
        for (int which = 0; which < 3; which++) run.call("who", boat, which, row, 0, n);
        run.call("barred", row, 0, n);
    }

    private static void callAny(Run run, Method method, Random random) throws Exception {
        String name = method.getName();
        boolean rare = name.equals("isle") || name.equals("feed") || name.equals("restore") || name.equals("drop");
        if (rare && random.nextInt(8) != 0) return;
        Object[] arguments = new Object[method.getParameterCount()];
        for (int i = 0; i < arguments.length; i++) arguments[i] = argument(name, i, run.model, random);
        if (arguments.length > 0 && random.nextInt(12) == 0) {
            arguments[random.nextInt(arguments.length)] = ODD[random.nextInt(ODD.length)];
        }
        run.call(name, arguments);
    }

    private static Method[] publicMethods() {
        List<Method> methods = new ArrayList<>();
        for (Method method : SpringIsle.class.getDeclaredMethods()) {
            if (java.lang.reflect.Modifier.isPublic(method.getModifiers())) methods.add(method);
        }
        methods.sort(Comparator.comparing(Method::getName));
        return methods.toArray(new Method[0]);
    }

    private static final int[] ODD = {-1, 0, 6, 7, 8, 12, 13, 24, 25, 40, 41, 60, 61, 255, 256, 999999, 1000000,
        Integer.MAX_VALUE, Integer.MIN_VALUE, Integer.MAX_VALUE - 1, Integer.MIN_VALUE + 1};

    private static int argument(String name, int i, Model model, Random random) {
        int some = random.nextInt(3) == 0 ? 40 : 12;
        switch (name + i) {
            case "row0": case "set0": case "copy0": case "copy2": case "drop0": case "who2": case "barred0":
                return random.nextInt(4);
            case "row1": case "who1": return random.nextInt(3);
            case "row2": return random.nextInt(16);
            case "set1": case "copy1": case "copy3": case "copy4": case "who3": case "barred1": return random.nextInt(5);
            case "set2": return random.nextInt(4) == 0 ? random.nextInt() : random.nextInt(8) - 2;
            case "who4": case "barred2": return 1 + random.nextInt(5);
            case "feed0": return random.nextInt(256);
            case "hours0": return 1 + random.nextInt(random.nextInt(5) == 0 ? 24 : 4);
            case "sand1": return random.nextInt(random.nextInt(3) == 0 ? 41 : 9) - 4;
            case "speed1": return 1 + random.nextInt(9);
            case "wind0": return random.nextInt(4);
            case "wreck2": return random.nextInt(11);
            case "drawn1": return 1 + random.nextInt(999999);
            case "send1": return random.nextInt(3) == 0 ? 0 : 1;
            case "count0": return random.nextInt(8);
            case "trace0": return random.nextInt(7);
            case "boat1": case "stand0": case "as1": return random.nextInt(6);
            case "cell0": case "sand0": return random.nextInt(Math.max(1, model.count(1)));
            case "owner0": case "dry0": case "open0": case "first0": case "fleet0": case "sandFor0": case "drawn0":
            case "ahead1": case "held1": case "latest1": case "winds1": case "recall1": case "wreck1":
                return 1 + random.nextInt(some);
            case "cell1": case "recall2": case "fleet1": case "wreck3": case "drawn2": case "image0": case "restore0":
            case "ask1":
                return random.nextInt(2);
            default: return random.nextInt(Math.max(1, model.count(2)));
        }
    }

    /** One object of the program beside the model, and what was called. */
    private static final class Run {
        final SpringIsle real = new SpringIsle();
        final Model model = new Model();
        final List<String> calls = new ArrayList<>();
        boolean agree = true;

        void call(String name, Object... arguments) throws Exception {
            if (!agree || calls.size() >= CALLS) return;
            Class<?>[] types = new Class<?>[arguments.length];
            Arrays.fill(types, int.class);
            long want = ((Number) Model.class.getDeclaredMethod(name, types).invoke(model, arguments)).longValue();
            String call = name + Arrays.toString(arguments);
            calls.add(call + " = " + want);
            String got;
            try {
                got = "answered " + SpringIsle.class.getDeclaredMethod(name, types).invoke(real, arguments);
            } catch (InvocationTargetException e) {
                got = "threw " + e.getCause();
            }
            if (got.equals("answered " + want)) return;
            agree = false;
            System.out.println(String.join("\n", calls));
            System.out.println(call + " " + got + ", due is " + want);
        }
    }

    /** Texts that are right, or nearly. */
    private static final class Texts {
        static String any(Random random) {
            StringBuilder text = new StringBuilder();
            text.append('i').append(2 + random.nextInt(random.nextBoolean() ? 7 : 23)).append(',');
            text.append(1 + random.nextInt(random.nextBoolean() ? 12 : 30)).append(',').append(random.nextInt(4)).append(';');
            int cells = 1 + random.nextInt(random.nextInt(12) == 0 ? 7 : 4);
            for (int c = 0; c < cells; c++) text.append('h').append(random.nextInt(random.nextBoolean() ? 31 : 8)).append(';');
            int boats = 7 - random.nextInt(random.nextInt(6) == 0 ? 7 : 4) - random.nextInt(2);
            if (boats < 1 || boats > 6 && random.nextInt(4) != 0) boats = 6;
            for (int b = 0; b < boats; b++) {
                text.append("scofr".charAt(random.nextInt(5))).append(random.nextInt(random.nextInt(6) == 0 ? 61 : 12));
                text.append(',').append(1 + random.nextInt(9)).append(';');
            }
            if (random.nextInt(5) == 0) spoil(text, random);
            return text.toString();
        }

        private static void spoil(StringBuilder text, Random random) {
            int at = random.nextInt(text.length());
            char sign = "i,;hscofr0123456789 Az".charAt(random.nextInt(22));
            int how = random.nextInt(4);
            if (how == 0) text.setLength(at);
            else if (how == 1) text.setCharAt(at, sign);
            else if (how == 2) text.insert(at, sign);
            else text.deleteCharAt(at);
        }
    }

    private abstract static class Boat implements Cloneable {
        int number, off, told, speed, held;
        boolean sent;

        abstract int kind();

        abstract int way(Sea sea);

        int size(List<Integer> trace) {
            trace.add(10);
            return speed;
        }

        int mark(List<Integer> trace) {
            trace.add(20);
            return number;
        }

        Boat twin() {
            try {
                return (Boat) clone();
            } catch (CloneNotSupportedException e) {
                throw new AssertionError(e);
            }
        }

        Boat turnedInto(int kind) {
            Boat other = of(kind);
            other.number = number;
            other.off = off;
            other.told = told;
            other.speed = speed;
            other.held = held;
            other.sent = sent;
            return other;
        }

        static Boat of(int kind) {
            switch (kind) {
                case 1: return new Sail();
                case 2: return new Cutter();
                case 3: return new Oars();
                case 4: return new Ferry();
                default: return new Raft();
            }
        }
    }

    private static class Sail extends Boat {
        int kind() {
            return 1;
        }

        int way(Sea sea) {
            return speed * sea.wind / 2;
        }

        int size(List<Integer> trace) {
            trace.add(11);
            int lent = super.size(trace);
            return lent + mark(trace);
        }

        int mark(List<Integer> trace) {
            trace.add(21);
            return super.mark(trace) + off;
        }
    }

    private static final class Cutter extends Sail {
        int kind() {
            return 2;
        }

        int way(Sea sea) {
            return super.way(sea) + (sea.wind != 0 ? 1 : 0);
        }

        int size(List<Integer> trace) {
            trace.add(12);
            return 0 - super.size(trace);
        }

        int mark(List<Integer> trace) {
            trace.add(24);
            return super.mark(trace) * 2;
        }
    }

    private static final class Oars extends Sail {
        int kind() {
            return 3;
        }

        int way(Sea sea) {
            return sea.wind == 0 ? 2 + speed / 2 : 2;
        }

        int mark(List<Integer> trace) {
            trace.add(22);
            return super.mark(trace) - 1000;
        }
    }

    private static class Ferry extends Boat {
        int kind() {
            return 4;
        }

        int way(Sea sea) {
            return sea.shows(0) ? speed : 0;
        }

        int size(List<Integer> trace) {
            trace.add(13);
            return super.size(trace) - 100;
        }

        int mark(List<Integer> trace) {
            trace.add(23);
            int lent = super.mark(trace);
            return lent - size(trace);
        }
    }

    private static final class Raft extends Ferry {
        int kind() {
            return 5;
        }

        int way(Sea sea) {
            return Math.max(super.way(sea) - sea.wind, 0);
        }

        int size(List<Integer> trace) {
            trace.add(14);
            return super.size(trace) * 2;
        }
    }

    private static final class Sea {
        int period, high, wind, hour;
        Boat owner;
        List<Integer> heights = new ArrayList<>();
        List<Boat> boats = new ArrayList<>();

        Sea twin() {
            Sea sea = new Sea();
            sea.period = period;
            sea.high = high;
            sea.wind = wind;
            sea.hour = hour;
            sea.heights = new ArrayList<>(heights);
            for (Boat boat : boats) sea.boats.add(boat.twin());
            sea.owner = owner == null ? null : sea.boats.get(owner.number);
            return sea;
        }

        int water(int behind) {
            int h = (hour + behind) % period;
            return (int) Math.floor((double) high * Math.abs(h + h - period) / period + 1e-9);
        }

        boolean dry(int cell, int behind) {
            return heights.get(cell) > water(behind);
        }

        boolean shows(int behind) {
            for (int c = 0; c < heights.size(); c++) {
                if (dry(c, behind)) return true;
            }
            return false;
        }

        Sea on(int n) {
            for (int k = 0; k < n; k++) anHour();
            return this;
        }

        void anHour() {
            List<Boat> there = new ArrayList<>();
            for (Boat boat : boats) {
                if (boat.sent) boat.off = Math.max(0, boat.off - boat.way(this));
                else boat.off = boat.off + 1 <= boat.told ? boat.off + 1 : boat.off;
                if (boat.off == 0) there.add(boat);
            }
            if (!shows(0)) owner = null;
            else if (owner == null || !there.contains(owner)) owner = there.isEmpty() ? null : there.get(0);
            if (owner != null) owner.held++;
            hour++;
        }

        int sentBits() {
            int bits = 0;
            for (Boat boat : boats) bits |= boat.sent ? 1 << boat.number : 0;
            return bits;
        }

        Sea sentAs(int bits) {
            for (Boat boat : boats) boat.sent = (bits & 1 << boat.number) != 0;
            return this;
        }

        int ownerNumber(int nobody) {
            return owner == null ? nobody : owner.number;
        }
    }

    private static final class Model {
        private final int[][] rows = new int[8][];
        private final int[] lanes = new int[8];
        private final StringBuilder tape = new StringBuilder();
        private final Deque<Sea> before = new ArrayDeque<>();
        private final Sea[] images = new Sea[2];
        private List<Integer> trace = new ArrayList<>();
        private Sea sea;
        private int fault, status;

        private static boolean no(int v, int least, int most) {
            return v < least || v > most;
        }

        private boolean noBoat(int b) {
            return sea == null || no(b, 0, sea.boats.size() - 1);
        }

        private boolean noCell(int c) {
            return sea == null || no(c, 0, sea.heights.size() - 1);
        }

        private int found(int finding) {
            status = finding;
            return -1000010 - finding;
        }

        private int fine(int answer) {
            status = 0;
            return answer;
        }

        private static boolean outside(int[] row, long i, long n) {
            return i < 0 || n < 0 || i + n > row.length;
        }

        int row(int row, int lane, int n) {
            if (no(row, 0, 7) || no(lane, 0, 2) || n > 40) return BAD;
            if (n < 0) return found(4);
            rows[row] = new int[n];
            lanes[row] = lane;
            return fine(n);
        }

        int set(int row, int i, int v) {
            if (no(row, 0, 7)) return BAD;
            if (rows[row] == null) return found(1);
            if (outside(rows[row], i, 1)) return found(2);
            int spare = lanes[row] == 0 ? 24 : lanes[row] == 1 ? 16 : 0;
            rows[row][i] = v << spare >> spare;
            return fine(rows[row][i]);
        }

        int copy(int a, int i, int b, int j, int n) {
            if (no(a, 0, 7) || no(b, 0, 7)) return BAD;
            if (rows[a] == null || rows[b] == null) return found(1);
            if (lanes[a] != lanes[b]) return found(5);
            if (outside(rows[a], i, n) || outside(rows[b], j, n)) return found(2);
            int[] ahead = rows[a].clone();
            for (int k = 0; k < n; k++) rows[b][j + k] = ahead[i + k];
            return fine(n);
        }

        int drop(int row) {
            if (no(row, 0, 7)) return BAD;
            if (rows[row] == null) return found(1);
            int n = rows[row].length;
            rows[row] = null;
            return fine(n);
        }

        int feed(int letter) {
            if (no(letter, 0, 255)) return BAD;
            if (tape.length() == 120) return FULL;
            tape.append((char) letter);
            return tape.length();
        }

        int isle() {
            Reading reading = new Reading(tape.toString());
            tape.setLength(0);
            if (reading.fault != 0) {
                fault = reading.fault;
                return -1000100 - reading.place;
            }
            sea = reading.sea;
            before.clear();
            return sea.boats.size();
        }

        int fault() {
            return fault;
        }

        int undo() {
            if (before.isEmpty()) return STATE;
            sea = before.removeLast();
            return before.size();
        }

        private void act() {
            before.addLast(sea.twin());
            if (before.size() > 24) before.removeFirst();
        }

        int hours(int n) {
            if (sea == null) return STATE;
            if (no(n, 1, 24)) return BAD;
            if (sea.hour + n > 999) return FULL;
            for (int k = 0; k < n; k++) {
                act();
                sea.anHour();
            }
            return sea.ownerNumber(NONE);
        }

        int send(int boat, int on) {
            if (noBoat(boat) || no(on, 0, 1)) return BAD;
            if (sea.boats.get(boat).sent == (on == 1)) return STATE;
            act();
            sea.boats.get(boat).sent = on == 1;
            return sea.sentBits();
        }

        int wind(int n) {
            if (sea == null) return STATE;
            if (no(n, 0, 3)) return BAD;
            act();
            int was = sea.wind;
            sea.wind = n;
            return was;
        }

        int sand(int cell, int n) {
            if (noCell(cell) || no(n, -20, 20) || n == 0) return BAD;
            int height = sea.heights.get(cell) + n;
            if (no(height, 0, 40)) return FULL;
            act();
            sea.heights.set(cell, height);
            return height;
        }

        int speed(int boat, int n) {
            if (noBoat(boat) || no(n, 1, 9)) return BAD;
            act();
            int was = sea.boats.get(boat).speed;
            sea.boats.get(boat).speed = n;
            return was;
        }

        int boat(int boat, int what) {
            if (noBoat(boat) || no(what, 0, 5)) return BAD;
            Boat b = sea.boats.get(boat);
            return new int[] {b.off, b.speed, b.sent ? 1 : 0, b.way(sea), b.held, b.told}[what];
        }

        int cell(int cell, int what) {
            if (noCell(cell) || no(what, 0, 1)) return BAD;
            return what == 0 ? sea.heights.get(cell) : sea.dry(cell, 0) ? 1 : 0;
        }

        int stand(int what) {
            if (sea == null) return STATE;
            if (no(what, 0, 5)) return BAD;
            int there = 0;
            for (Boat b : sea.boats) there += b.off == 0 ? 1 << b.number : 0;
            return new int[] {sea.water(0), sea.shows(0) ? 1 : 0, sea.ownerNumber(NONE), sea.wind, sea.sentBits(),
                there}[what];
        }

        int ahead(int boat, int n) {
            return noBoat(boat) || no(n, 0, 60) ? BAD : sea.twin().on(n).boats.get(boat).off;
        }

        int owner(int n) {
            return sea == null ? STATE : no(n, 0, 60) ? BAD : sea.twin().on(n).ownerNumber(NONE);
        }

        int held(int boat, int n) {
            return noBoat(boat) || no(n, 0, 60) ? BAD : sea.twin().on(n).boats.get(boat).held;
        }

        int shows() {
            if (sea == null) return STATE;
            int k = 0;
            while (k <= 60 && !sea.shows(k)) k++;
            return k > 60 ? NONE : k;
        }

        int dry(int n) {
            if (sea == null) return STATE;
            if (no(n, 1, 60)) return BAD;
            int bits = 0;
            Sea then = sea.twin();
            for (int k = 0; k < n; k++) {
                for (int c = 0; c < then.heights.size(); c++) bits |= then.dry(c, 0) ? 1 << c : 0;
                then.anHour();
            }
            return bits;
        }

        int open(int n) {
            if (sea == null) return STATE;
            if (no(n, 1, 60)) return BAD;
            int hours = 0;
            Sea then = sea.twin();
            for (int k = 0; k < n; k++) {
                hours += then.shows(0) ? 1 : 0;
                then.anHour();
            }
            return hours;
        }

        int first(int n) {
            if (sea == null) return STATE;
            if (no(n, 1, 60)) return BAD;
            for (int k = 0; k <= n; k++) {
                int owner = sea.twin().on(k).ownerNumber(NONE);
                if (owner != NONE) return owner;
            }
            return NONE;
        }

        int latest(int boat, int n) {
            if (noBoat(boat) || no(n, 1, 40)) return BAD;
            if (sea.boats.get(boat).sent) return STATE;
            int latest = NONE;
            for (int k = 0; k < n; k++) {
                Sea then = sea.twin().on(k);
                then.boats.get(boat).sent = true;
                if (then.on(n - k).ownerNumber(-1) == boat) latest = k;
            }
            return latest;
        }

        int winds(int boat, int n) {
            if (noBoat(boat) || no(n, 1, 60)) return BAD;
            int bits = 0;
            for (int w = 0; w < 4; w++) {
                Sea then = sea.twin();
                then.wind = w;
                if (then.on(n).ownerNumber(-1) == boat) bits += 1 << w;
            }
            return bits;
        }

        private static List<Integer> setsBySize(int boats) {
            List<Integer> sets = new ArrayList<>();
            for (int set = 0; set < 1 << boats; set++) sets.add(set);
            sets.sort(Comparator.<Integer>comparingInt(Integer::bitCount).thenComparingInt(set -> set));
            return sets;
        }

        int recall(int boat, int n, int what) {
            if (noBoat(boat) || no(n, 1, 40) || no(what, 0, 1)) return BAD;
            int sent = sea.sentBits();
            for (int set : setsBySize(sea.boats.size())) {
                if ((set & sent) != set || (set & 1 << boat) != 0) continue;
                if (sea.twin().sentAs(sent - set).on(n).ownerNumber(-1) == boat) return what == 1 ? set : Integer.bitCount(set);
            }
            return NONE;
        }

        int fleet(int n, int what) {
            if (sea == null) return STATE;
            if (no(n, 1, 40) || no(what, 0, 1)) return BAD;
            for (int set : setsBySize(sea.boats.size())) {
                if (sea.twin().sentAs(set).on(n).owner != null) return what == 1 ? set : Integer.bitCount(set);
            }
            return NONE;
        }

        int sandFor(int n) {
            if (sea == null) return STATE;
            if (no(n, 1, 60)) return BAD;
            int needed = 0;
            Sea then = sea.twin();
            then.heights.set(0, 0);
            for (int k = 0; k < n; k++) {
                if (!then.shows(k)) needed = Math.max(needed, then.water(k) + 1);
            }
            return needed > 40 ? NONE : needed;
        }

        private boolean asTold(Sea then, int[] row, int i, int n) {
            boolean so = true;
            for (int k = 0; k < n; k++) {
                then.anHour();
                so &= then.ownerNumber(-1) == row[i + k];
            }
            return so;
        }

        int who(int boat, int which, int row, int i, int n) {
            if (noBoat(boat) || no(which, 0, 2) || no(row, 0, 7) || no(n, 1, 12)) return BAD;
            if (rows[row] == null) return found(1);
            if (outside(rows[row], i, n)) return found(2);
            int bits = 0;
            for (int v = which == 2 ? 0 : 1; v <= (which == 0 ? 5 : which == 1 ? 9 : 3); v++) {
                Sea then = sea.twin();
                if (which == 2) then.wind = v;
                if (which == 1) then.boats.get(boat).speed = v;
                if (which == 0) {
                    Boat other = then.boats.get(boat).turnedInto(v);
                    if (then.owner == then.boats.get(boat)) then.owner = other;
                    then.boats.set(boat, other);
                }
                if (asTold(then, rows[row], i, n)) bits += 1 << v;
            }
            return fine(bits);
        }

        int barred(int row, int i, int n) {
            if (sea == null) return STATE;
            if (no(row, 0, 7) || no(n, 1, 12)) return BAD;
            if (rows[row] == null) return found(1);
            if (outside(rows[row], i, n)) return found(2);
            int bits = asTold(sea.twin(), rows[row], i, n) ? 64 : 0;
            for (Boat b : sea.boats) {
                if (!b.sent) continue;
                Sea then = sea.twin().sentAs(sea.sentBits() - (1 << b.number));
                if (asTold(then, rows[row], i, n)) bits += 1 << b.number;
            }
            return fine(bits);
        }

        int rich() {
            if (sea == null) return STATE;
            int most = sea.boats.stream().mapToInt(b -> b.held).max().getAsInt();
            return most == 0 ? NONE : sea.boats.stream().filter(b -> b.held == most).findFirst().get().number;
        }

        private long likely(Sea then, int from, int boat, int n, int p) {
            if (from == then.boats.size()) return then.twin().on(n).ownerNumber(-1) == boat ? 1 : 0;
            if (!then.boats.get(from).sent) return likely(then, from + 1, boat, n, p);
            long kept = likely(then, from + 1, boat, n, p);
            then.boats.get(from).sent = false;
            long lost = likely(then, from + 1, boat, n, p);
            then.boats.get(from).sent = true;
            return kept * (10 - p) + lost * p;
        }

        long wreck(int boat, int n, int p, int what) {
            if (noBoat(boat) || no(n, 0, 60) || no(p, 0, 10) || no(what, 0, 1)) return BAD;
            long above = likely(sea.twin(), 0, boat, n, p);
            long below = Math.round(Math.pow(10, Integer.bitCount(sea.sentBits())));
            long gcd = java.math.BigInteger.valueOf(above).gcd(java.math.BigInteger.valueOf(below)).longValue();
            return (what == 0 ? above : below) / gcd;
        }

        int drawn(int n, int seed, int what) {
            if (sea == null) return STATE;
            if (no(n, 0, 60) || no(seed, 1, 999999) || no(what, 0, 1)) return BAD;
            Sea then = sea.twin();
            List<Integer> owners = new ArrayList<>();
            long x = seed;
            for (int k = 0; k < n; k++) {
                x = x * 16807L % 2147483647L;
                then.wind = (int) (x % 4);
                Boat b = then.boats.get((int) (x % then.boats.size()));
                if (x % 5 == 0) b.sent = !b.sent;
                then.anHour();
                if (then.owner != null) owners.add(then.owner.number);
            }
            int turns = owners.isEmpty() ? 0 : 1;
            for (int k = 1; k < owners.size(); k++) turns += owners.get(k).intValue() != owners.get(k - 1) ? 1 : 0;
            return what == 0 ? owners.size() : turns;
        }

        int image(int k) {
            if (no(k, 0, 1)) return BAD;
            if (sea == null) return STATE;
            images[k] = sea.twin();
            return 1;
        }

        int restore(int k) {
            if (no(k, 0, 1)) return BAD;
            if (images[k] == null) return STATE;
            sea = images[k].twin();
            before.clear();
            return 1;
        }

        int kind(int one) {
            return noBoat(one) ? BAD : sea.boats.get(one).kind();
        }

        int as(int one, int kind) {
            if (noBoat(one) || no(kind, 0, 5)) return BAD;
            Class<?>[] kinds = {Boat.class, Sail.class, Cutter.class, Oars.class, Ferry.class, Raft.class};
            return kinds[kind].isInstance(sea.boats.get(one)) ? fine(one) : found(3);
        }

        int ask(int one, int what) {
            if (noBoat(one) || no(what, 0, 1)) return BAD;
            trace = new ArrayList<>();
            return what == 0 ? sea.boats.get(one).size(trace) : sea.boats.get(one).mark(trace);
        }

        int trace(int i) {
            return no(i, 0, Math.min(16, trace.size()) - 1) ? NONE : trace.get(i);
        }

        int count(int what) {
            if (no(what, 0, 7)) return BAD;
            int present = 0;
            for (int[] row : rows) present += row == null ? 0 : 1;
            Sea s = sea == null ? new Sea() : sea;
            int held = s.boats.stream().mapToInt(b -> b.held).sum();
            return new int[] {present, s.heights.size(), s.boats.size(), s.hour, s.sentBits(), held, before.size(),
                tape.length()}[what];
        }

        int status() {
            return status;
        }
    }

    /** Reads by a table of states over tokens. */
    private static final class Reading {
        private static final int[][] BOUNDS = {null, {2, 24}, null, {1, 30}, null, {0, 3}, null, null, {0, 30}, null, null,
            {0, 60}, null, {1, 9}, null, null};
        private static final String EXPECTED = "i#,#,#;h#;*#,#;+";

        final Sea sea = new Sea();
        int fault, place;

        Reading(String text) {
            int state = 0;
            int at = 0;
            List<Integer> numbers = new ArrayList<>();
            while (fault == 0) {
                String token = token(text, at);
                place = at;
                char expected = EXPECTED.charAt(state);
                boolean sort = token.length() == 1 && "scofr".contains(token);
                if (expected == '#') {
                    if (!token.matches("[0-9]{1,2}")) fault = 1;
                    else if (Model.no(Integer.parseInt(token), BOUNDS[state][0], BOUNDS[state][1])) fault = 2;
                    else numbers.add(Integer.parseInt(token));
                } else if (expected == '*' && token.equals("h")) {
                    if (sea.heights.size() == 6) fault = 3;
                    state = 7;
                } else if ((expected == '*' || expected == '+') && sort) {
                    if (sea.boats.size() == 6) fault = 3;
                    Boat boat = Boat.of(1 + "scofr".indexOf(token));
                    boat.number = sea.boats.size();
                    if (fault == 0) sea.boats.add(boat);
                    state = 10;
                } else if (expected == '+' && token.isEmpty()) {
                    return;
                } else if (!token.equals(String.valueOf(expected))) {
                    fault = 1;
                }
                if (fault == 0) stepped(state, numbers);
                state++;
                at += token.length();
            }
        }

        private void stepped(int state, List<Integer> numbers) {
            int latest = numbers.isEmpty() ? 0 : numbers.get(numbers.size() - 1);
            if (state == 1) sea.period = latest;
            if (state == 3) sea.high = latest;
            if (state == 5) sea.wind = latest;
            if (state == 8) sea.heights.add(latest);
            Boat boat = sea.boats.isEmpty() ? null : sea.boats.get(sea.boats.size() - 1);
            if (state == 11) boat.off = boat.told = latest;
            if (state == 13) boat.speed = latest;
        }

        private static String token(String text, int at) {
            int end = at;
            while (end < text.length() && Character.isDigit(text.charAt(end)) && text.charAt(end) < 128) end++;
            return text.substring(at, Math.min(text.length(), Math.max(end, at + 1)));
        }
    }
}
