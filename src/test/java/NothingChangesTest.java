import java.util.ArrayList;
import java.util.List;
import java.util.function.Consumer;

/**
 * "What is refused, or found, changes nothing but status()", and "FORETOLD (nothing changes)": each call
 * is made on an object that went through a run, and all that can be seen of that object behind it is
 * compared with one that went through the same run without the call.
 */
public final class NothingChangesTest {
    private static final int NONE = -1000000, BAD = -1000001, STATE = -1000002, FULL = -1000003;
    private static final int[] EDGES = {Integer.MIN_VALUE, -21, -1, 0, 1, 2, 3, 5, 6, 7, 8, 9, 10, 11, 12, 13, 20,
            21, 24, 25, 40, 41, 60, 61, 120, 255, 256, 999999, 1000000, Integer.MAX_VALUE};
    private static final int[] FEW = {Integer.MIN_VALUE, -1, 0, 1, 2, 3, 6, 7, 8, 13, 61, Integer.MAX_VALUE};

    private interface Call {
        long on(SpringIsle x);
    }

    /** A call, and whether it may change something if it isn't refused. */
    private record Named(String name, Call call, boolean changes) {
    }

    private record Run(String name, Consumer<SpringIsle> calls) {
    }

    private static int wrong = 0;
    private static int seen = 0;

    public static void main(String[] args) {
        List<Named> calls = allCalls();
        for (Run run : runs()) {
            SpringIsle without = after(run);
            int status = without.status();
            String due = all(without);
            for (Named named : calls) check(run, named, status, due);
        }
        refusalsAreMet();
        System.out.println(wrong == 0 ? seen + " calls changed nothing" : wrong + " calls changed something");
        if (wrong != 0) System.exit(1);
    }

    private static SpringIsle after(Run run) {
        SpringIsle x = new SpringIsle();
        run.calls.accept(x);
        return x;
    }

    private static void check(Run run, Named named, int status, String due) {
        SpringIsle x = after(run);
        long answer = named.call.on(x);
        if (named.changes && !isRefusal(answer)) return;
        seen++;
        int wantStatus = statusBehind(named.name, answer, status);
        int gotStatus = x.status();
        String got = all(x);
        if (got.equals(due) && gotStatus == wantStatus) return;
        wrong++;
        System.out.println(run.name + ": " + named.name + " answered " + answer + "; status " + gotStatus
                + ", due is " + wantStatus + "\n  " + got + "\n  due is\n  " + due);
    }

    private static boolean isRefusal(long answer) {
        return answer == BAD || answer == STATE || answer == FULL || isFinding(answer);
    }

    private static boolean isFinding(long answer) {
        return answer <= -1000011 && answer >= -1000015;
    }

    private static int statusBehind(String name, long answer, int status) {
        boolean tells = name.startsWith("row") || name.startsWith("set") || name.startsWith("copy")
                || name.startsWith("drop") || name.startsWith("who") || name.startsWith("barred") || name.startsWith("as");
        if (!tells || answer == BAD || answer == STATE || answer == FULL) return status;
        return isFinding(answer) ? (int) (-1000010 - answer) : 0;
    }

    // ---- what can be seen of an object, but for status(): some 400 calls

    private static String all(SpringIsle x) {
        StringBuilder s = new StringBuilder();
        s.append("fault ").append(x.fault()).append(" trace");
        for (int i = 0; i < 7; i++) s.append(' ').append(x.trace(i));
        look(x, s.append(" isle"));
        s.append(" undo");
        int left = 1;
        for (int k = 0; k < 25 && left >= 0; k++) {
            left = x.undo();
            s.append(' ').append(left).append(':').append(x.count(3)).append(':').append(x.count(4));
            s.append(':').append(x.stand(3)).append(':').append(x.boat(1, 1)).append(':').append(x.cell(0, 0));
        }
        s.append(" images ").append(x.restore(0));
        look(x, s);
        s.append(' ').append(x.restore(1));
        look(x, s);
        tape(x, s.append(" tape"));
        rows(x, s.append(" rows"));
        return s.toString();
    }

    private static void look(SpringIsle x, StringBuilder s) {
        for (int what = 1; what <= 7; what++) s.append(' ').append(x.count(what));
        for (int what = 0; what <= 3; what++) s.append(' ').append(x.stand(what));
        for (int c = 0; c < 2; c++) s.append(' ').append(x.cell(c, 0));
        for (int b = 0; b < 3; b++) {
            for (int what : new int[] {0, 1, 3, 4, 5}) s.append(' ').append(x.boat(b, what));
            s.append(' ').append(x.kind(b));
        }
        s.append(' ').append(x.shows());
    }

    // Each run leaves a tape that two boats make an ISLE of, or an empty one, or a full one.
    private static void tape(SpringIsle x, StringBuilder s) {
        int bytes = x.count(7);
        String rest = bytes == 0 ? "i2,1,0;h5;o1,1;o1,1;" : bytes == 120 ? "" : "o1,1;o1,1;";
        for (int i = 0; i < rest.length(); i++) s.append(' ').append(x.feed(rest.charAt(i)));
        s.append(' ').append(x.isle()).append(' ').append(x.fault());
        for (int what = 1; what <= 7; what++) s.append(' ').append(x.count(what));
        s.append(' ').append(x.cell(0, 0)).append(' ').append(x.stand(3));
    }

    // By the ISLE of tape() who is SENT alone has it behind an HOUR: so an ITEM is found out.
    private static void rows(SpringIsle x, StringBuilder s) {
        if (x.count(2) != 2) {
            String text = "i2,1,0;h5;o1,1;o1,1;";
            for (int i = 0; i < text.length(); i++) x.feed(text.charAt(i));
            x.isle();
        }
        s.append(' ').append(x.count(0));
        for (int v = -1; v < 2; v++) {
            if (v >= 0) x.send(v, 1);
            for (int r = 0; r < 3; r++) {
                for (int i = 0; i < 4; i++) s.append(' ').append(x.barred(r, i, 1));
            }
            if (v >= 0) x.send(v, 0);
        }
        for (int r = 0; r < 8; r++) s.append(' ').append(x.set(r, 0, 70000)).append(':').append(x.drop(r));
    }

    // ---- runs

    private static void tell(SpringIsle x, String text) {
        for (int i = 0; i < text.length(); i++) x.feed(text.charAt(i));
    }

    private static void rowsOf(SpringIsle x) {
        int[][] values = {{-1, 0, 1, 0}, {1, 0, -1}, {0, 0, 1, 1}};
        for (int r = 0; r < 3; r++) {
            x.row(r, r, values[r].length);
            for (int i = 0; i < values[r].length; i++) x.set(r, i, values[r][i]);
        }
        x.row(4, 0, 4);
        x.row(5, 1, 0);
        x.row(7, 2, 40);
    }

    private static List<Run> runs() {
        List<Run> runs = new ArrayList<>();
        runs.add(new Run("a new object", x -> { }));
        runs.add(new Run("rows, a part of a tape, a fault, no isle", x -> {
            tell(x, "i1");
            x.isle();
            rowsOf(x);
            tell(x, "i2,1,0;h7;");
            x.row(3, 0, -1);
        }));
        runs.add(new Run("an isle with all there is", NothingChangesTest::busy));
        runs.add(new Run("a full tape, an isle without acts", x -> {
            tell(x, "i4,8,2;h0;h30;s3,4;o5,2;f4,3;");
            x.isle();
            for (int k = 0; k < 120; k++) x.feed('i');
            rowsOf(x);
            x.set(0, 9, 1);
        }));
        runs.add(new Run("hour 999, heights 0 and 40", x -> {
            tell(x, "i4,8,2;h20;h20;s3,4;o5,2;f4,3;");
            x.isle();
            x.send(1, 1);
            for (int k = 0; k < 41; k++) x.hours(24);
            x.hours(15);
            x.sand(0, -20);
            x.sand(1, 20);
            x.as(0, 5);
        }));
        return runs;
    }

    private static void busy(SpringIsle x) {
        tell(x, "i4,8,1;h3;h5;c3,4;o5,2;f4,3;");
        x.isle();
        x.image(1);
        x.send(0, 1);
        x.hours(3);
        x.image(0);
        x.wind(3);
        x.sand(0, 4);
        x.speed(1, 7);
        x.send(2, 1);
        x.hours(5);
        x.send(0, 0);
        x.ask(0, 0);
        tell(x, "i99");
        x.isle();
        tell(x, "i3,9,2;h6;");
        rowsOf(x);
        x.copy(0, 0, 1, 0, 1);
    }

    // ---- calls

    private static List<Named> allCalls() {
        List<Named> calls = new ArrayList<>();
        none(calls);
        for (int v : EDGES) one(calls, v);
        for (int a : EDGES) {
            for (int b : EDGES) two(calls, a, b);
        }
        for (int a : FEW) {
            for (int b : FEW) {
                for (int c : FEW) three(calls, a, b, c);
            }
        }
        int[] least = {Integer.MIN_VALUE, -1, 0, 1, 2, 5, 9, Integer.MAX_VALUE};
        for (int a : least) {
            for (int b : least) {
                for (int c : least) four(calls, a, b, c);
            }
        }
        return calls;
    }

    private static void none(List<Named> calls) {
        calls.add(new Named("undo()", x -> x.undo(), true));
        calls.add(new Named("fault()", x -> x.fault(), false));
        calls.add(new Named("shows()", x -> x.shows(), false));
        calls.add(new Named("rich()", x -> x.rich(), false));
        calls.add(new Named("status()", x -> x.status(), false));
    }

    private static void one(List<Named> calls, int v) {
        String in = "(" + v + ")";
        calls.add(new Named("drop" + in, x -> x.drop(v), true));
        calls.add(new Named("feed" + in, x -> x.feed(v), true));
        calls.add(new Named("hours" + in, x -> x.hours(v), true));
        calls.add(new Named("wind" + in, x -> x.wind(v), true));
        calls.add(new Named("stand" + in, x -> x.stand(v), false));
        calls.add(new Named("owner" + in, x -> x.owner(v), false));
        calls.add(new Named("dry" + in, x -> x.dry(v), false));
        calls.add(new Named("open" + in, x -> x.open(v), false));
        calls.add(new Named("first" + in, x -> x.first(v), false));
        calls.add(new Named("sandFor" + in, x -> x.sandFor(v), false));
        calls.add(new Named("image" + in, x -> x.image(v), true));
        calls.add(new Named("restore" + in, x -> x.restore(v), true));
        calls.add(new Named("kind" + in, x -> x.kind(v), false));
        calls.add(new Named("trace" + in, x -> x.trace(v), false));
        calls.add(new Named("count" + in, x -> x.count(v), false));
    }

    private static void two(List<Named> calls, int a, int b) {
        String in = "(" + a + ", " + b + ")";
        calls.add(new Named("send" + in, x -> x.send(a, b), true));
        calls.add(new Named("sand" + in, x -> x.sand(a, b), true));
        calls.add(new Named("speed" + in, x -> x.speed(a, b), true));
        calls.add(new Named("boat" + in, x -> x.boat(a, b), false));
        calls.add(new Named("cell" + in, x -> x.cell(a, b), false));
        calls.add(new Named("ahead" + in, x -> x.ahead(a, b), false));
        calls.add(new Named("held" + in, x -> x.held(a, b), false));
        calls.add(new Named("latest" + in, x -> x.latest(a, b), false));
        calls.add(new Named("winds" + in, x -> x.winds(a, b), false));
        calls.add(new Named("fleet" + in, x -> x.fleet(a, b), false));
        calls.add(new Named("as" + in, x -> x.as(a, b), false));
        calls.add(new Named("ask" + in, x -> x.ask(a, b), true));
    }

    private static void three(List<Named> calls, int a, int b, int c) {
        String in = "(" + a + ", " + b + ", " + c + ")";
        calls.add(new Named("row" + in, x -> x.row(a, b, c), true));
        calls.add(new Named("set" + in, x -> x.set(a, b, c), true));
        calls.add(new Named("recall" + in, x -> x.recall(a, b, c), false));
        calls.add(new Named("barred" + in, x -> x.barred(a, b, c), false));
        calls.add(new Named("drawn" + in, x -> x.drawn(a, b, c), false));
    }

    // Of calls that take four numbers, or more, two of them are the same, or go along.
    private static void four(List<Named> calls, int a, int b, int c) {
        String in = "(" + a + ", " + b + ", " + c + ")";
        calls.add(new Named("copy by" + in, x -> x.copy(a, b, c, b, 1), true));
        calls.add(new Named("copy of 0, 0 by" + in, x -> x.copy(0, a, 0, b, c), true));
        calls.add(new Named("copy of 0, 4 by" + in, x -> x.copy(0, a, 4, b, c), true));
        calls.add(new Named("copy of 0, 1 by" + in, x -> x.copy(0, a, 1, b, c), true));
        calls.add(new Named("who of 0 by" + in, x -> x.who(0, a, 0, b, c), false));
        calls.add(new Named("who of 3 HOURS by" + in, x -> x.who(a, b, c, 0, 3), false));
        calls.add(new Named("wreck by" + in, x -> x.wreck(a, b, c, 1), false));
        calls.add(new Named("wreck of 0 by" + in, x -> x.wreck(0, a, b, c), false));
    }

    // ---- that the runs meet each sort of refusal, so that the comparison is not of nothing

    private static void refusalsAreMet() {
        Run busy = new Run("busy", NothingChangesTest::busy);
        SpringIsle x = after(busy);
        met("hours(25)", x.hours(25), BAD);
        met("send(2, 1)", x.send(2, 1), STATE);
        met("sand(0, -20)", x.sand(0, -20), FULL);
        met("set(3, 0, 0)", x.set(3, 0, 0), -1000011);
        met("set(1, 3, 0)", x.set(1, 3, 0), -1000012);
        met("as(1, 4)", x.as(1, 4), -1000013);
        met("row(0, 0, -1)", x.row(0, 0, -1), -1000014);
        met("copy(0, 0, 1, 0, 1)", x.copy(0, 0, 1, 0, 1), -1000015);
        met("undo() of a new object", new SpringIsle().undo(), STATE);
        SpringIsle late = after(runs().get(4));
        met("hours(1)", late.hours(1), FULL);
        met("sand(1, 1)", late.sand(1, 1), FULL);
        met("sand(0, -1)", late.sand(0, -1), FULL);
        met("restore(0)", late.restore(0), STATE);
        SpringIsle full = after(runs().get(3));
        met("feed(0)", full.feed(0), FULL);
        met("latest(0, 41)", full.latest(0, 41), BAD);
        met("owner(0)", full.owner(0), NONE);
    }

    private static void met(String call, long got, long want) {
        if (got == want) return;
        wrong++;
        System.out.println(call + " answered " + got + ", due is " + want);
    }
}
