import java.util.function.Supplier;

/**
 * Each sentence of the document that names a boundary case, by a test of its own: the least and the
 * greatest number and the first beyond, nothing there yet, full, numbers that would wrap around, and
 * which refusal comes first. (That a refusal changes nothing stands in NothingChangesTest.)
 */
public final class BoundariesTest {
    private static final int NONE = -1000000, BAD = -1000001, STATE = -1000002, FULL = -1000003;
    private static final int NULL = -1000011, PLACE = -1000012, KIND = -1000013, SIZE = -1000014, STORE = -1000015;
    private static final int LEAST = Integer.MIN_VALUE, MOST = Integer.MAX_VALUE;

    // It SHOWS always; each boat that is SENT is THERE behind one HOUR.
    private static final String SIX = "i2,1,0;h5;h5;h5;h5;h5;h5;o1,1;o1,1;o1,1;o1,1;o1,1;o1,1;";
    private static final String ONE = "i2,1,0;h5;o1,1;";
    // WATER 8 4 0 4; it SHOWS in the hour 2 alone.
    private static final String SMALL = "i4,8,0;h3;o3,4;s5,2;f4,3;";
    private static final String NEVER = "i2,30,1;h0;s1,9;";
    // It SHOWS always; the boat makes 1 in an HOUR, and is THERE behind exactly as many HOURS as it is OFF.
    private static final String SLOW = "i2,1,1;h5;s";
    private static final String LONGEST =
            "i24,30,03;h30;h30;h30;h30;h30;h30;s60,09;c60,09;o60,09;f60,09;r60,09;s60,09;";

    private static int wrong = 0;
    private static int sentences = 0;
    private static String sentence = "";

    private interface OneNumber {
        long on(SpringIsle x, int v);
    }

    private static void says(String words) {
        sentence = words;
        sentences++;
    }

    private static void due(String call, long got, long want) {
        if (got == want) return;
        wrong++;
        System.out.println("\"" + sentence + "\": " + call + " answered " + got + ", due is " + want);
    }

    /** A number that goes from least to most: what the two answer, and what is answered beyond them. */
    private static void edges(String call, Supplier<SpringIsle> fresh, OneNumber number, int least, int most,
            long atLeast, long atMost, long below, long above) {
        due(call + " by " + least, number.on(fresh.get(), least), atLeast);
        due(call + " by " + most, number.on(fresh.get(), most), atMost);
        due(call + " by " + (least - 1), number.on(fresh.get(), least - 1), below);
        due(call + " by the least int", number.on(fresh.get(), LEAST), below);
        due(call + " by " + (most + 1), number.on(fresh.get(), most + 1), above);
        due(call + " by the greatest int", number.on(fresh.get(), MOST), above);
    }

    private static void edges(String call, Supplier<SpringIsle> fresh, OneNumber number, int least, int most,
            long atLeast, long atMost) {
        edges(call, fresh, number, least, most, atLeast, atMost, BAD, BAD);
    }

    private static int tell(SpringIsle x, String text) {
        for (int i = 0; i < text.length(); i++) x.feed(text.charAt(i));
        return x.isle();
    }

    private static SpringIsle none() {
        return new SpringIsle();
    }

    private static SpringIsle told(String text) {
        SpringIsle x = new SpringIsle();
        tell(x, text);
        return x;
    }

    private static SpringIsle six() {
        return told(SIX);
    }

    private static SpringIsle sixSent() {
        SpringIsle x = six();
        for (int b = 0; b < 6; b++) x.send(b, 1);
        return x;
    }

    private static SpringIsle slow(int off) {
        return told(SLOW + off + ",2;");
    }

    private static SpringIsle slowSent(int off) {
        SpringIsle x = slow(off);
        x.send(0, 1);
        return x;
    }

    private static void items(SpringIsle x, int row, int lane, int... values) {
        x.row(row, lane, values.length);
        for (int i = 0; i < values.length; i++) x.set(row, i, values[i]);
    }

    /** An ISLE by which it can be seen which ITEMS are 0: boat 0 owns it from the first HOUR on. */
    private static SpringIsle ownedByZero() {
        SpringIsle x = told(ONE);
        x.send(0, 1);
        return x;
    }

    private static boolean isZero(SpringIsle x, int row, int i) {
        return x.barred(row, i, 1) == 64;
    }

    public static void main(String[] args) {
        withoutIsle();
        findingNumbers();
        rowNumbers();
        rowAnew();
        setNumbers();
        setCuts();
        copyNumbers();
        copyWraps();
        copyOverItself();
        dropNumbers();
        feedNumbers();
        tapeFull();
        tokens();
        numbersTold();
        howManyTold();
        grammarEnds();
        faultOrder();
        isleAnew();
        faultNumbers();
        undoNone();
        undoFull();
        hoursNumbers();
        hoursFull();
        sendNumbers();
        windNumbers();
        sandNumbers();
        speedNumbers();
        boatNumbers();
        cellNumbers();
        standNumbers();
        waterEdges();
        wayEdges();
        hourEdges();
        ownerEdges();
        aheadNumbers();
        showsEdges();
        dryAndOpenNumbers();
        firstNumbers();
        latestNumbers();
        windsNumbers();
        recallNumbers();
        fleetNumbers();
        sandForNumbers();
        whoNumbers();
        barredNumbers();
        richEdges();
        wreckNumbers();
        drawnNumbers();
        imageNumbers();
        kindNumbers();
        askNumbers();
        traceEdges();
        countNumbers();
        statusEdges();
        System.out.println(wrong == 0 ? sentences + " sentences hold" : wrong + " answers are not as due");
        if (wrong != 0) System.exit(1);
    }

    // ---- the head of the terms

    private static void withoutIsle() {
        says("Promise 1: No ISLE: what asks for one is STATE, ahead of BAD, where that is told");
        for (int n : new int[] {0, 1, LEAST, MOST}) {
            due("hours", none().hours(n), STATE);
            due("wind", none().wind(n), STATE);
            due("stand", none().stand(n), STATE);
            due("owner", none().owner(n), STATE);
            due("dry", none().dry(n), STATE);
            due("open", none().open(n), STATE);
            due("first", none().first(n), STATE);
            due("fleet", none().fleet(n, n), STATE);
            due("sandFor", none().sandFor(n), STATE);
            due("barred", none().barred(n, n, n), STATE);
            due("drawn", none().drawn(n, n, n), STATE);
        }
        due("shows", none().shows(), STATE);
        due("rich", none().rich(), STATE);
        says("BAD: there is no such thing: no boat, no CELL without an ISLE");
        due("send", none().send(0, 1), BAD);
        due("sand", none().sand(0, 1), BAD);
        due("speed", none().speed(0, 1), BAD);
        due("boat", none().boat(0, 0), BAD);
        due("cell", none().cell(0, 0), BAD);
        due("ahead", none().ahead(0, 0), BAD);
        due("held", none().held(0, 0), BAD);
        due("latest", none().latest(0, 1), BAD);
        due("winds", none().winds(0, 1), BAD);
        due("recall", none().recall(0, 1, 0), BAD);
        due("who", none().who(0, 0, 0, 0, 1), BAD);
        due("wreck", none().wreck(0, 0, 0, 0), BAD);
        due("kind", none().kind(0), BAD);
        due("as", none().as(0, 0), BAD);
        due("ask", none().ask(0, 0), BAD);
        says("Promise 1: A new object: nothing is there");
        for (int what = 0; what <= 7; what++) due("count(" + what + ")", none().count(what), 0);
        due("fault", none().fault(), 0);
        due("status", none().status(), 0);
        due("undo", none().undo(), STATE);
        due("trace", none().trace(0), NONE);
    }

    private static void findingNumbers() {
        says("FINDINGS: -1000010 less 1 NULL, 2 PLACE, 3 KIND, 4 SIZE, 5 STORE");
        SpringIsle x = told(ONE);
        due("NULL", x.drop(0), -1000011);
        due("status of NULL", x.status(), 1);
        x.row(0, 0, 0);
        due("PLACE", x.set(0, 0, 0), -1000012);
        due("status of PLACE", x.status(), 2);
        due("KIND", x.as(0, 4), -1000013);
        due("status of KIND", x.status(), 3);
        due("SIZE", x.row(0, 0, -1), -1000014);
        due("status of SIZE", x.status(), 4);
        x.row(1, 1, 0);
        due("STORE", x.copy(0, 0, 1, 0, 0), -1000015);
        due("status of STORE", x.status(), 5);
        says("public static final int NONE, BAD, STATE, FULL");
        due("NONE", SpringIsle.NONE, -1000000);
        due("BAD", SpringIsle.BAD, -1000001);
        due("STATE", SpringIsle.STATE, -1000002);
        due("FULL", SpringIsle.FULL, -1000003);
    }

    // ---- rows

    private static void rowNumbers() {
        says("Promise 2: ROWS 0 .. 7; BAD: ROW");
        edges("row(v, 0, 3)", BoundariesTest::none, (x, v) -> x.row(v, 0, 3), 0, 7, 3, 3);
        says("Promise 2: a LANE (0 bytes, 1 shorts, 2 ints); BAD: LANE");
        edges("row(0, v, 3)", BoundariesTest::none, (x, v) -> x.row(0, v, 3), 0, 2, 3, 3);
        says("Promise 2: 0 to 40 ITEMS; BAD: n above 40; SIZE (fewer than none)");
        edges("row(0, 0, v)", BoundariesTest::none, (x, v) -> x.row(0, 0, v), 0, 40, 0, 40, SIZE, BAD);
        says("Promise 2: BAD ahead of SIZE");
        due("row(8, 0, -1)", none().row(8, 0, -1), BAD);
        due("row(-1, 0, -1)", none().row(-1, 0, -1), BAD);
        due("row(0, 3, -1)", none().row(0, 3, -1), BAD);
        due("row(0, -1, -1)", none().row(0, -1, -1), BAD);
    }

    private static void rowAnew() {
        says("Promise 2: ITEMS, 0 at first");
        SpringIsle x = ownedByZero();
        for (int lane = 0; lane <= 2; lane++) {
            x.row(lane, lane, 40);
            for (int i = 0; i < 40; i++) due("ITEM " + i + " is 0", isZero(x, lane, i) ? 1 : 0, 1);
        }
        says("Promise 2: in place of what is there");
        x = ownedByZero();
        items(x, 7, 0, 9, 9, 9);
        due("row(7, 2, 40)", x.row(7, 2, 40), 40);
        due("count(0)", x.count(0), 1);
        due("ITEM 0 is 0 again", x.barred(7, 0, 1), 64);
        due("ITEM 2 is 0 again", x.barred(7, 2, 1), 64);
        due("the LANE is another", x.set(7, 39, 65536), 65536);
        due("row(7, 1, 0)", x.row(7, 1, 0), 0);
        due("no ITEM is left", x.set(7, 0, 1), PLACE);
        due("it is there yet", x.drop(7), 0);
        says("Promise 41: ROWS 0 .. 7 are missing (at first); how many: 0 ROWS");
        x = none();
        for (int r = 0; r < 8; r++) {
            due("drop(" + r + ")", x.drop(r), NULL);
            x.row(r, 0, 0);
            due("count(0)", x.count(0), r + 1);
        }
        for (int r = 0; r < 8; r++) {
            x.drop(r);
            due("count(0) behind drop", x.count(0), 7 - r);
        }
    }

    private static SpringIsle fullRows() {
        SpringIsle x = none();
        for (int r = 0; r < 8; r++) x.row(r, 2, 40);
        return x;
    }

    private static void setNumbers() {
        says("Promise 3: BAD: ROW");
        edges("set(v, 0, 5)", BoundariesTest::fullRows, (x, v) -> x.set(v, 0, 5), 0, 7, 5, 5);
        says("Promise 3: PLACE (no such place of a ROW)");
        edges("set(0, v, 5)", BoundariesTest::fullRows, (x, v) -> x.set(0, v, 5), 0, 39, 5, 5, PLACE, PLACE);
        SpringIsle x = none();
        x.row(0, 0, 1);
        due("the one ITEM", x.set(0, 0, 5), 5);
        due("behind the one ITEM", x.set(0, 1, 5), PLACE);
        x.row(0, 0, 0);
        due("none", x.set(0, 0, 5), PLACE);
        says("Promise 3: NULL (a ROW that is missing)");
        for (int r = 0; r < 8; r++) due("set(" + r + ", 0, 5)", none().set(r, 0, 5), NULL);
        says("Promise 3: BAD, then NULL, then PLACE");
        due("set(8, -1, 5)", none().set(8, -1, 5), BAD);
        due("set(-1, 0, 5)", none().set(-1, 0, 5), BAD);
        due("set(0, -1, 5)", none().set(0, -1, 5), NULL);
        due("set(0, 40, 5)", none().set(0, 40, 5), NULL);
    }

    private static void setCuts() {
        says("Promise 3: v, its lowest bits, as many as the LANE has: what it is then");
        SpringIsle x = fullRows();
        x.row(0, 0, 1);
        x.row(1, 1, 1);
        int[][] bytes = {{0, 0}, {127, 127}, {128, -128}, {255, -1}, {256, 0}, {257, 1}, {-1, -1}, {-128, -128},
                {-129, 127}, {-256, 0}, {32767, -1}, {32768, 0}, {MOST, -1}, {LEAST, 0}};
        for (int[] b : bytes) due("byte " + b[0], x.set(0, 0, b[0]), b[1]);
        int[][] shorts = {{255, 255}, {256, 256}, {32767, 32767}, {32768, -32768}, {65535, -1}, {65536, 0},
                {65537, 1}, {-1, -1}, {-32768, -32768}, {-32769, 32767}, {-65536, 0}, {MOST, -1}, {LEAST, 0}};
        for (int[] s : shorts) due("short " + s[0], x.set(1, 0, s[0]), s[1]);
        for (int v : new int[] {0, -1, 255, 65536, MOST, LEAST}) due("int " + v, x.set(2, 0, v), v);
        says("Promise 3: ITEM i becomes what is answered");
        x = ownedByZero();
        x.row(0, 0, 1);
        x.set(0, 0, 256);
        due("a byte of 256 is 0", x.barred(0, 0, 1), 64);
        x.set(0, 0, 1);
        due("a byte of 1 is not", x.barred(0, 0, 1), 0);
        x.send(0, 0);
        x.set(0, 0, 255);
        due("a byte of 255 is nobody", x.barred(0, 0, 1), 64);
        x.row(0, 1, 1);
        x.set(0, 0, 255);
        due("a short of 255 is not", x.barred(0, 0, 1), 0);
        x.set(0, 0, 65535);
        due("a short of 65535 is nobody", x.barred(0, 0, 1), 64);
        x.row(0, 2, 1);
        x.set(0, 0, 65535);
        due("an int of 65535 is not", x.barred(0, 0, 1), 0);
        x.set(0, 0, NONE);
        due("an int of NONE is not", x.barred(0, 0, 1), 0);
    }

    private static void copyNumbers() {
        says("Promise 4: BAD: ROWS");
        edges("copy(v, 0, 3, 0, 40)", BoundariesTest::fullRows, (x, v) -> x.copy(v, 0, 3, 0, 40), 0, 7, 40, 40);
        edges("copy(3, 0, v, 0, 40)", BoundariesTest::fullRows, (x, v) -> x.copy(3, 0, v, 0, 40), 0, 7, 40, 40);
        says("Promise 4: PLACE (i, j, n below 0, or beyond an end)");
        edges("copy(0, v, 1, 0, 1)", BoundariesTest::fullRows, (x, v) -> x.copy(0, v, 1, 0, 1), 0, 39, 1, 1, PLACE, PLACE);
        edges("copy(0, 0, 1, v, 1)", BoundariesTest::fullRows, (x, v) -> x.copy(0, 0, 1, v, 1), 0, 39, 1, 1, PLACE, PLACE);
        edges("copy(0, 0, 1, 0, v)", BoundariesTest::fullRows, (x, v) -> x.copy(0, 0, 1, 0, v), 0, 40, 0, 40, PLACE, PLACE);
        edges("copy(0, 7, 1, 0, v)", BoundariesTest::fullRows, (x, v) -> x.copy(0, 7, 1, 0, v), 0, 33, 0, 33, PLACE, PLACE);
        edges("copy(0, 0, 1, 7, v)", BoundariesTest::fullRows, (x, v) -> x.copy(0, 0, 1, 7, v), 0, 33, 0, 33, PLACE, PLACE);
        says("Promise 4: 0 ITEMS, at an end, and beyond it");
        edges("copy(0, v, 1, 0, 0)", BoundariesTest::fullRows, (x, v) -> x.copy(0, v, 1, 0, 0), 0, 40, 0, 0, PLACE, PLACE);
        edges("copy(0, 0, 1, v, 0)", BoundariesTest::fullRows, (x, v) -> x.copy(0, 0, 1, v, 0), 0, 40, 0, 0, PLACE, PLACE);
        SpringIsle x = none();
        x.row(0, 0, 0);
        x.row(1, 0, 3);
        due("none of none", x.copy(0, 0, 0, 0, 0), 0);
        due("none to some", x.copy(0, 0, 1, 3, 0), 0);
        due("some of none", x.copy(0, 0, 1, 0, 1), PLACE);
        due("some to none", x.copy(1, 0, 0, 0, 1), PLACE);
        says("Promise 4: NULL, of either ROW, and of both");
        due("of a", x.copy(2, 0, 1, 0, 0), NULL);
        due("of b", x.copy(1, 0, 2, 0, 0), NULL);
        due("of both", x.copy(2, 0, 2, 0, 0), NULL);
        says("Promise 4: STORE (ROWS of two LANES), of none, too");
        x.row(3, 1, 3);
        x.row(4, 2, 3);
        due("bytes to shorts", x.copy(1, 0, 3, 0, 0), STORE);
        due("shorts to bytes", x.copy(3, 0, 1, 0, 1), STORE);
        due("shorts to ints", x.copy(3, 0, 4, 0, 1), STORE);
        due("bytes to ints", x.copy(1, 0, 4, 0, 1), STORE);
        says("Promise 4: BAD; NULL; STORE; PLACE, the first that fits");
        due("BAD, NULL, PLACE", x.copy(8, -1, 2, -1, -1), BAD);
        due("NULL, BAD, PLACE", x.copy(2, -1, -1, -1, -1), BAD);
        due("NULL, PLACE", x.copy(1, -1, 2, 0, 1), NULL);
        due("PLACE, NULL", x.copy(2, 0, 1, 0, 9), NULL);
        due("STORE, PLACE of i", x.copy(1, -1, 3, 0, 1), STORE);
        due("STORE, PLACE of j", x.copy(1, 0, 3, 4, 1), STORE);
        due("STORE, PLACE of n", x.copy(1, 0, 3, 0, -1), STORE);
    }

    private static void copyWraps() {
        says("Promise 4: PLACE, where i or j and n would wrap around");
        int[] far = {LEAST, LEAST + 1, -1, 1, MOST - 1, MOST};
        for (int i : far) {
            for (int n : far) {
                if (i == 1 && n == 1) continue;
                due("copy(0, " + i + ", 1, 0, " + n + ")", fullRows().copy(0, i, 1, 0, n), PLACE);
                due("copy(0, 0, 1, " + i + ", " + n + ")", fullRows().copy(0, 0, 1, i, n), PLACE);
                due("copy(0, " + i + ", 0, " + i + ", " + n + ")", fullRows().copy(0, i, 0, i, n), PLACE);
            }
        }
    }

    private static void copyOverItself() {
        says("Promise 4: ITEMS come to b as they were ahead");
        SpringIsle x = ownedByZero();
        // 0 9 9 9 moved on by 1 is 0 0 9 9; one by one from the left it would be 0 0 0 0.
        items(x, 0, 0, 0, 9, 9, 9);
        due("copy to the right", x.copy(0, 0, 0, 1, 3), 3);
        for (int i = 0; i < 4; i++) due("ITEM " + i, isZero(x, 0, i) ? 0 : 9, i < 2 ? 0 : 9);
        // 9 9 9 0 moved back by 1 is 9 9 0 0; one by one from the right it would be 0 0 0 0.
        items(x, 0, 0, 9, 9, 9, 0);
        due("copy to the left", x.copy(0, 1, 0, 0, 3), 3);
        for (int i = 0; i < 4; i++) due("ITEM " + i, isZero(x, 0, i) ? 0 : 9, i < 2 ? 9 : 0);
        due("copy in place", x.copy(0, 0, 0, 0, 4), 4);
        for (int i = 0; i < 4; i++) due("ITEM " + i, isZero(x, 0, i) ? 0 : 9, i < 2 ? 9 : 0);
        says("Promise 4: n ITEMS of a, from i on, to b, from j on, and no other");
        items(x, 1, 0, 9, 9, 9, 9, 9);
        items(x, 2, 0, 0, 0, 0);
        due("copy(2, 1, 1, 2, 2)", x.copy(2, 1, 1, 2, 2), 2);
        int[] then = {9, 9, 0, 0, 9};
        for (int i = 0; i < 5; i++) due("ITEM " + i, isZero(x, 1, i) ? 0 : 9, then[i]);
        for (int i = 0; i < 3; i++) due("ITEM " + i + " of a", isZero(x, 2, i) ? 0 : 9, 0);
    }

    private static void dropNumbers() {
        says("Promise 5: BAD");
        edges("drop(v)", BoundariesTest::fullRows, (x, v) -> x.drop(v), 0, 7, 40, 40);
        says("Promise 5: how many ITEMS it had, none, too");
        SpringIsle x = none();
        x.row(0, 2, 0);
        due("drop(0) of none", x.drop(0), 0);
        says("Promise 5: A ROW is missing from now on; NULL");
        due("drop(0) again", x.drop(0), NULL);
        due("set(0, 0, 0)", x.set(0, 0, 0), NULL);
        due("copy(0, 0, 0, 0, 0)", x.copy(0, 0, 0, 0, 0), NULL);
        x = ownedByZero();
        items(x, 0, 0, 9);
        x.drop(0);
        due("who", x.who(0, 0, 0, 0, 1), NULL);
        due("barred", x.barred(0, 0, 1), NULL);
        x.row(0, 0, 1);
        due("ITEMS are 0 anew", x.barred(0, 0, 1), 64);
    }

    // ---- what is told

    private static void feedNumbers() {
        says("Promise 6: A byte (0 to 255); BAD");
        edges("feed(v)", BoundariesTest::none, (x, v) -> x.feed(v), 0, 255, 1, 1);
    }

    private static SpringIsle fullTape() {
        SpringIsle x = none();
        for (int k = 0; k < 120; k++) x.feed('i');
        return x;
    }

    private static void tapeFull() {
        says("Promise 6: THE TAPE has at most 120 bytes: how many it has; FULL");
        SpringIsle x = none();
        for (int k = 1; k <= 120; k++) due("feed of byte " + k, x.feed(k), k);
        due("feed of byte 121", x.feed(0), FULL);
        due("feed of byte 121 again", x.feed(255), FULL);
        due("count(7)", x.count(7), 120);
        says("Promise 6: BAD ahead of FULL");
        edges("feed(v), full", BoundariesTest::fullTape, (y, v) -> y.feed(v), 0, 255, FULL, FULL);
        says("Promise 7: The tape, empty then, behind a FAULT, too");
        due("isle()", x.isle(), -1000100);
        due("count(7)", x.count(7), 0);
        due("feed anew", x.feed('i'), 1);
        due("the bytes ahead are gone", x.isle(), -1000101);
        due("isle() of ONE", tell(x, ONE), 1);
        due("count(7) behind an ISLE", x.count(7), 0);
        due("isle() of nothing", x.isle(), -1000100);
        says("Promise 7: the longest ISLE, and a tape that goes on to its end");
        due("the longest", tell(none(), LONGEST), 6);
        StringBuilder full = new StringBuilder(LONGEST);
        while (full.length() < 120) full.append('h');
        due("the longest, and more", tell(none(), full.toString()), -1000100 - LONGEST.length());
    }

    private static void fault(String text, int place, int number) {
        SpringIsle x = none();
        due("isle() of " + text, tell(x, text), -1000100 - place);
        due("fault() of " + text, x.fault(), number);
        due("count(2) of " + text, x.count(2), 0);
    }

    private static void tokens() {
        says("TOKENS: letters a to z, figures, SIGNS , and ; nothing else");
        String[] good = {"i2", ",", "1", ",", "0", ";", "h", "5", ";", "o", "1", ",", "1", ";"};
        for (int b = 0; b < 256; b++) {
            SpringIsle x = none();
            x.feed(b);
            due("a tape of the byte " + b, x.isle(), b == 'i' ? -1000101 : -1000100);
            due("its FAULT", x.fault(), 1);
        }
        for (int b : new int[] {0, 9, 10, 32, 43, 45, 46, '/', ':', '<', '@', 'A', 'H', 'I', 'S', 'Z', '[', '`',
                '{', 127, 128, 233, 255}) {
            StringBuilder ahead = new StringBuilder();
            for (String token : good) {
                fault(ahead.toString() + (char) b, ahead.length(), 1);
                ahead.append(token);
            }
            fault(ahead.toString() + (char) b, ahead.length(), 1);
        }
        says("letters (each by itself): the SORTS are s, c, o, f, r alone");
        for (char c = 'a'; c <= 'z'; c++) {
            int kind = "scofr".indexOf(c) + 1;
            SpringIsle x = none();
            due("a boat " + c, tell(x, "i2,1,0;h5;" + c + "1,1;"), kind > 0 ? 1 : c == 'h' ? -1000111 - 1 : -1000110);
            due("its KIND", x.kind(0), kind > 0 ? kind : BAD);
        }
        says("NUMBERS (figures, 2 at most); a run of three figures is none, at its first");
        fault("i002,1,0;", 1, 1);
        fault("i0002,1,0;", 1, 1);
        fault("i2,001,0;", 3, 1);
        fault("i2,1,000;", 5, 1);
        fault("i2,1,0;h005;", 8, 1);
        fault("i2,1,0;h5;o001,1;", 11, 1);
        fault("i2,1,0;h5;o1,001;", 13, 1);
        fault("i2,1,0;h5;o1,1;001", 15, 1);
        fault("i2,1,0;h5;o1,100", 13, 1);
        fault("000", 0, 1);
    }

    private static void numberTold(String ahead, String behind, int least, int most, OneNumber reads) {
        for (int v = 0; v <= 99; v++) {
            String[] spelt = v < 10 ? new String[] {"" + v, "0" + v} : new String[] {"" + v};
            for (String number : spelt) {
                SpringIsle x = none();
                boolean good = v >= least && v <= most;
                String text = ahead + number + behind;
                due("isle() of " + text, tell(x, text), good ? 1 : -1000100 - ahead.length());
                due("fault() of " + text, x.fault(), good ? 0 : 2);
                if (good) due("what is read of " + text, reads.on(x, v), 1);
            }
        }
    }

    private static void numbersTold() {
        says("law: PERIOD (2 to 24)");
        numberTold("i", ",30,0;h0;o1,1;", 2, 24, (x, v) -> x.hours(v - 1) == NONE && x.stand(0) != 30
                && x.hours(1) == NONE && x.stand(0) == 30 ? 1 : 0);
        says("law: HIGH (1 to 30)");
        numberTold("i2,", ",0;h5;o1,1;", 1, 30, (x, v) -> x.stand(0) == v ? 1 : 0);
        says("law: WIND (0 to 3)");
        numberTold("i2,1,", ";h5;o1,1;", 0, 3, (x, v) -> x.stand(3) == v ? 1 : 0);
        says("cell: HEIGHT (0 to 30)");
        numberTold("i2,1,0;h", ";o1,1;", 0, 30, (x, v) -> x.cell(0, 0) == v ? 1 : 0);
        says("boat: OFF (0 to 60)");
        numberTold("i2,1,0;h5;o", ",1;", 0, 60, (x, v) -> x.boat(0, 0) == v && x.boat(0, 5) == v ? 1 : 0);
        says("boat: SPEED (1 to 9)");
        numberTold("i2,1,0;h5;o1,", ";", 1, 9, (x, v) -> x.boat(0, 1) == v ? 1 : 0);
    }

    private static void howManyTold() {
        String[] sorts = {"s", "c", "o", "f", "r"};
        says("CELLS 0 .. 5, 6 at most; FAULT 3: a cell more than there is room for (its letter)");
        StringBuilder text = new StringBuilder("i2,1,0;");
        for (int cells = 1; cells <= 6; cells++) {
            text.append("h5;");
            SpringIsle x = none();
            due("isle() of " + cells, tell(x, text + "o1,1;"), 1);
            due("count(1)", x.count(1), cells);
            due("the last CELL", x.cell(cells - 1, 0), 5);
            due("one more", x.cell(cells, 0), BAD);
        }
        fault(text + "h", 25, 3);
        fault(text + "h5;", 25, 3);
        fault(text + "h99;", 25, 3);
        fault(text + "h5;o1,1;", 25, 3);
        fault(text + "o1,1;h5;", 30, 1);
        says("BOATS 0 .. 5, 6 at most; FAULT 3: a boat more than there is room for (its letter)");
        text = new StringBuilder("i2,1,0;h5;");
        for (int boats = 1; boats <= 6; boats++) {
            text.append("o1,1;");
            SpringIsle x = none();
            due("isle() of " + boats, tell(x, text.toString()), boats);
            due("count(2)", x.count(2), boats);
            due("the last BOAT", x.kind(boats - 1), 3);
            due("one more", x.kind(boats), BAD);
        }
        for (String sort : sorts) {
            fault(text + sort, 40, 3);
            fault(text + sort + "99,0;", 40, 3);
            fault(text + sort + "1,1;", 40, 3);
        }
        says("FAULT 1, the least: what cannot stand behind six boats has no room either");
        for (String token : new String[] {"h", "h5;", "i", "a", "z", "1", "111", ",", ";", " "}) fault(text + token, 40, 1);
    }

    private static void grammarEnds() {
        says("isle: law cell { cell } boat { boat }: one cell, one boat at least");
        fault("", 0, 1);
        fault("i2,1,0;", 7, 1);
        fault("i2,1,0;o1,1;", 7, 1);
        fault("i2,1,0;h5;", 10, 1);
        fault("h5;o1,1;", 0, 1);
        fault("i2,1,0;i2,1,0;h5;o1,1;", 7, 1);
        fault("i2,1,0;h5;i2,1,0;", 10, 1);
        fault("i2,1,0;h5;o1,1;h5;", 15, 1);
        fault("i2,1,0;h5;o1,1;i", 15, 1);
        says("FAULT 1: the end: how many bytes there are");
        String whole = "i24,30,3;h30;o60,9;";
        for (int n = 0; n < whole.length(); n++) fault(whole.substring(0, n), n, 1);
        due("the whole", tell(none(), whole), 1);
        says("FAULT 1: a TOKEN that cannot stand there");
        String[] tokens = {"i", "24", ",", "30", ",", "3", ";", "h", "30", ";", "o", "60", ",", "9", ";"};
        String[] others = {"i", "h", "x", "7", ",", ";"};
        StringBuilder ahead = new StringBuilder();
        for (String token : tokens) {
            for (String other : others) {
                boolean figures = Character.isDigit(token.charAt(0)) && other.equals("7");
                boolean longer = ahead.length() > 0 && Character.isDigit(ahead.charAt(ahead.length() - 1)) && other.equals("7");
                boolean cell = token.equals("o") && other.equals("h");
                if (figures || longer || cell || token.equals(other)) continue;
                fault(ahead + other + "9", ahead.length(), 1);
            }
            ahead.append(token);
        }
    }

    private static void faultOrder() {
        says("FAULTS, the first TOKEN that has one");
        fault("i1,0,9;h99;", 1, 2);
        fault("i2,0,9;h99;", 3, 2);
        fault("i2,1,9;hx", 5, 2);
        fault("i2,1,0;h31;x", 8, 2);
        fault("i2,1,0;h5 ;h31;", 9, 1);
        fault("i2,1,0;h5;o61,0;", 11, 2);
        fault("i2,1,0;h5;o60,0;o61,1", 14, 2);
        fault("i2,1,0;h5;o1,1;x99", 15, 1);
        fault("i2;1,0;h5;h5;h5;h5;h5;h5;h5;", 2, 1);
        says("FAULTS (its first byte): of a NUMBER of two figures, too");
        fault("i25,1,0;", 1, 2);
        fault("i2,31,0;", 3, 2);
        fault("i2,1,0;h5;o1,10;", 13, 2);
        says("FAULTS, of one TOKEN the least: a NUMBER that cannot stand there, and is not as told, is 1");
        fault("99", 0, 1);
        fault("i2,1,0;99", 7, 1);
        fault("i2,1,0;h5;99", 10, 1);
        fault("i2,1,0;h5;o1,1;99", 15, 1);
        fault("i999", 1, 1);
        fault("i2,1,0;h999;", 8, 1);
        fault("i2,1,0;h5;o1,999;", 13, 1);
    }

    private static void isleAnew() {
        says("An ISLE that is read stands in place of the one before: HOUR 0, nobody is SENT, nobody owned it");
        SpringIsle x = sixSent();
        x.hours(3);
        x.wind(3);
        x.sand(0, 20);
        x.speed(0, 9);
        // What was foretold ahead of it leaves nothing behind, either.
        x.owner(60);
        due("isle()", tell(x, SIX), 6);
        due("HOUR", x.count(3), 0);
        due("SENT", x.count(4), 0);
        due("HELD of all", x.count(5), 0);
        due("HELD", x.boat(0, 4), 0);
        due("OWNER", x.stand(2), NONE);
        due("rich()", x.rich(), NONE);
        due("WIND", x.stand(3), 0);
        due("HEIGHT", x.cell(0, 0), 5);
        due("SPEED", x.boat(0, 1), 1);
        due("OFF", x.boat(0, 0), 1);
        says("no ACT can be undone");
        due("count(6)", x.count(6), 0);
        due("undo()", x.undo(), STATE);
        says("fewer CELLS, BOATS than before: there is no such thing any more");
        due("isle() of ONE", tell(x, ONE), 1);
        due("cell(1, 0)", x.cell(1, 0), BAD);
        due("boat(1, 0)", x.boat(1, 0), BAD);
        due("kind(1)", x.kind(1), BAD);
        says("-1000100 less the place of a FAULT: all stays");
        x = sixSent();
        x.hours(2);
        due("isle() of a part", tell(x, "i2,9,3;h9;s9,9"), -1000114);
        due("BOATS", x.count(2), 6);
        due("CELLS", x.count(1), 6);
        due("HOUR", x.count(3), 2);
        due("SENT", x.count(4), 63);
        due("OWNER", x.stand(2), 0);
        due("WIND", x.stand(3), 0);
        due("ACTS", x.count(6), 8);
        due("undo()", x.undo(), 7);
        due("HOUR behind undo()", x.count(3), 1);
    }

    private static void faultNumbers() {
        says("Promise 8: The number of the latest FAULT; 0 before one");
        SpringIsle x = none();
        due("fault() of a new one", x.fault(), 0);
        tell(x, ONE);
        due("fault() behind an ISLE", x.fault(), 0);
        tell(x, "i1");
        due("fault() of 2", x.fault(), 2);
        tell(x, "i2,1,0;h1;h1;h1;h1;h1;h1;h");
        due("fault() of 3", x.fault(), 3);
        x.isle();
        due("fault() of 1", x.fault(), 1);
        tell(x, ONE);
        due("fault() stays behind an ISLE", x.fault(), 1);
    }

    private static void undoNone() {
        says("Promise 9: STATE: none");
        due("undo() without an ISLE", none().undo(), STATE);
        SpringIsle x = six();
        due("undo() of a new ISLE", x.undo(), STATE);
        x.send(0, 1);
        due("undo() of one", x.undo(), 0);
        due("undo() behind the last", x.undo(), STATE);
        due("undo() behind the last again", x.undo(), STATE);
        due("SENT", x.count(4), 0);
        x.image(0);
        x.send(0, 1);
        x.restore(0);
        due("undo() behind restore()", x.undo(), STATE);
        says("Promise 9: each ACT can be undone, the latest first: how many can be undone yet");
        x = six();
        x.hours(1);
        x.send(5, 1);
        x.send(5, 0);
        x.wind(3);
        x.sand(5, 20);
        x.sand(5, -20);
        x.speed(5, 9);
        due("undo() of SPEED", x.undo(), 6);
        due("SPEED", x.boat(5, 1), 1);
        due("undo() of HEIGHT less", x.undo(), 5);
        due("HEIGHT", x.cell(5, 0), 25);
        due("undo() of HEIGHT more", x.undo(), 4);
        due("HEIGHT", x.cell(5, 0), 5);
        due("undo() of WIND", x.undo(), 3);
        due("WIND", x.stand(3), 0);
        due("undo() of called back", x.undo(), 2);
        due("SENT", x.count(4), 32);
        due("undo() of SENT", x.undo(), 1);
        due("SENT", x.count(4), 0);
        due("undo() of an HOUR", x.undo(), 0);
        due("HOUR", x.count(3), 0);
    }

    private static void undoFull() {
        says("ACTS (24 at most are kept, of more the oldest is forgotten)");
        SpringIsle x = six();
        for (int k = 1; k <= 24; k++) {
            x.wind(k % 4);
            due("count(6) behind " + k, x.count(6), k);
        }
        x.wind(1);
        due("count(6) behind 25", x.count(6), 24);
        for (int k = 23; k >= 0; k--) {
            due("undo()", x.undo(), k);
            due("WIND then", x.stand(3), (k + 1) % 4);
        }
        due("undo() of the one that is forgotten", x.undo(), STATE);
        due("WIND is that behind the first", x.stand(3), 1);
        says("n HOURS, an ACT each: 24 at once are kept, all of them");
        x = six();
        x.send(0, 1);
        x.hours(24);
        due("count(6)", x.count(6), 24);
        for (int k = 23; k >= 0; k--) {
            due("undo()", x.undo(), k);
            due("HOUR then", x.count(3), k);
        }
        due("SENT is forgotten", x.undo(), STATE);
        due("SENT stays", x.count(4), 1);
        says("ACTS behind an undo() take the place of what was undone");
        x = six();
        x.hours(24);
        for (int k = 0; k < 5; k++) x.undo();
        due("count(6)", x.count(6), 19);
        x.wind(2);
        due("count(6)", x.count(6), 20);
        due("undo()", x.undo(), 19);
        due("WIND", x.stand(3), 0);
        due("HOUR", x.count(3), 19);
        for (int k = 18; k >= 0; k--) due("undo()", x.undo(), k);
        due("HOUR", x.count(3), 0);
    }

    // ---- what is done

    private static void hoursNumbers() {
        says("Promise 10: n HOURS (1 to 24); BAD");
        edges("hours(v)", BoundariesTest::sixSent, (x, v) -> x.hours(v), 1, 24, 0, 0);
        SpringIsle x = six();
        x.hours(24);
        due("HOUR", x.count(3), 24);
        says("Promise 10: OWNER then (NONE)");
        due("hours(1), nobody", six().hours(1), NONE);
        says("Promise 10: STATE: no ISLE (ahead of BAD)");
        due("hours(0)", none().hours(0), STATE);
        due("hours(25)", none().hours(25), STATE);
        due("hours(1)", none().hours(1), STATE);
    }

    private static SpringIsle late(int hour) {
        SpringIsle x = six();
        for (int k = 0; k < hour / 24; k++) x.hours(24);
        if (hour % 24 != 0) x.hours(hour % 24);
        return x;
    }

    private static void hoursFull() {
        says("Promise 10: FULL: HOUR would be above 999");
        due("hours(24) of 975", late(975).hours(24), NONE);
        due("hours(24) of 976", late(976).hours(24), FULL);
        due("hours(1) of 998", late(998).hours(1), NONE);
        due("hours(2) of 998", late(998).hours(2), FULL);
        due("hours(1) of 999", late(999).hours(1), FULL);
        SpringIsle x = late(990);
        due("hours(10) of 990", x.hours(10), FULL);
        due("HOUR stays", x.count(3), 990);
        due("hours(9) of 990", x.hours(9), NONE);
        due("HOUR", x.count(3), 999);
        due("undo()", x.undo(), 23);
        due("hours(1) of 998 again", x.hours(1), NONE);
        says("Promise 10: BAD ahead of FULL");
        edges("hours(v) of 999", () -> late(999), (y, v) -> y.hours(v), 1, 24, FULL, FULL);
        says("FORETOLD in HOUR 999: what is told of the next HOURS isn't held by 999");
        x = late(999);
        x.send(2, 1);
        due("owner(60)", x.owner(60), 2);
        due("held(2, 60)", x.held(2, 60), 60);
        due("ahead(2, 60)", x.ahead(2, 60), 0);
        due("open(60)", x.open(60), 60);
        due("shows()", x.shows(), 0);
    }

    private static void sendNumbers() {
        says("Promise 11: BOATS 0 .. 5; BAD");
        edges("send(v, 1)", BoundariesTest::six, (x, v) -> x.send(v, 1), 0, 5, 1, 32);
        edges("send(v, 1) of one", () -> told(ONE), (x, v) -> x.send(v, 1), 0, 0, 1, 1);
        says("Promise 11: SENT (1), or called back (0); BAD");
        edges("send(0, v)", BoundariesTest::six, (x, v) -> x.send(0, v), 0, 1, STATE, 1);
        edges("send(0, v), SENT", BoundariesTest::sixSent, (x, v) -> x.send(0, v), 0, 1, 62, STATE);
        says("Promise 11: STATE: it is so");
        SpringIsle x = six();
        for (int b = 0; b < 6; b++) {
            due("send(" + b + ", 0)", x.send(b, 0), STATE);
            due("send(" + b + ", 1)", x.send(b, 1), (2 << b) - 1);
            due("send(" + b + ", 1) again", x.send(b, 1), STATE);
        }
        for (int b = 0; b < 6; b++) due("send(" + b + ", 0)", x.send(b, 0), 63 & ~((2 << b) - 1));
        says("Promise 11: BAD ahead of STATE");
        due("send(6, 0)", x.send(6, 0), BAD);
        due("send(0, 2)", x.send(0, 2), BAD);
    }

    private static void windNumbers() {
        says("Promise 12: WIND (0 to 3): what it was; BAD");
        edges("wind(v)", () -> told("i2,1,2;h5;o1,1;"), (x, v) -> x.wind(v), 0, 3, 2, 2);
        SpringIsle x = six();
        int was = 0;
        for (int n : new int[] {3, 2, 1, 0}) {
            due("wind(" + n + ")", x.wind(n), was);
            due("stand(3)", x.stand(3), n);
            was = n;
        }
        says("Promise 12: STATE: no ISLE (ahead of BAD)");
        due("wind(4)", none().wind(4), STATE);
        due("wind(-1)", none().wind(-1), STATE);
    }

    private static void sandNumbers() {
        says("Promise 13: CELLS 0 .. 5; BAD");
        edges("sand(v, 1)", BoundariesTest::six, (x, v) -> x.sand(v, 1), 0, 5, 6, 6);
        edges("sand(v, 1) of one", () -> told(ONE), (x, v) -> x.sand(v, 1), 0, 0, 6, 6);
        says("Promise 13: n (-20 to 20); BAD");
        edges("sand(0, v)", () -> told("i2,1,0;h20;o1,1;"), (x, v) -> x.sand(0, v), -20, 20, 0, 40);
        says("Promise 13: n, not 0; BAD");
        due("sand(0, 0)", six().sand(0, 0), BAD);
        due("sand(0, 1)", six().sand(0, 1), 6);
        due("sand(0, -1)", six().sand(0, -1), 4);
        says("Promise 13: FULL: it would be below 0");
        due("sand(0, -5) of 5", six().sand(0, -5), 0);
        due("sand(0, -6) of 5", six().sand(0, -6), FULL);
        due("sand(0, -20) of 5", six().sand(0, -20), FULL);
        due("sand(0, -1) of 0", told("i2,1,0;h0;o1,1;").sand(0, -1), FULL);
        says("Promise 13: FULL: it would be above 40");
        SpringIsle x = told("i2,1,0;h30;o1,1;");
        due("sand(0, 11) of 30", x.sand(0, 11), FULL);
        due("sand(0, 10) of 30", x.sand(0, 10), 40);
        due("sand(0, 1) of 40", x.sand(0, 1), FULL);
        due("cell(0, 0)", x.cell(0, 0), 40);
        says("Promise 13: BAD ahead of FULL");
        due("sand(0, 21) of 40", x.sand(0, 21), BAD);
        due("sand(1, 20)", x.sand(1, 20), BAD);
        due("sand(0, 0) of 40", x.sand(0, 0), BAD);
        due("sand(0, -21) of 5", six().sand(0, -21), BAD);
    }

    private static void speedNumbers() {
        says("Promise 14: BOATS 0 .. 5; BAD");
        edges("speed(v, 2)", BoundariesTest::six, (x, v) -> x.speed(v, 2), 0, 5, 1, 1);
        edges("speed(v, 2) of one", () -> told(ONE), (x, v) -> x.speed(v, 2), 0, 0, 1, 1);
        says("Promise 14: SPEED (1 to 9): what it was; BAD");
        edges("speed(0, v)", () -> told("i2,1,0;h5;o1,5;"), (x, v) -> x.speed(0, v), 1, 9, 5, 5);
        SpringIsle x = six();
        due("speed(5, 9)", x.speed(5, 9), 1);
        due("boat(5, 1)", x.boat(5, 1), 9);
        due("speed(5, 1)", x.speed(5, 1), 9);
        due("boat(5, 1)", x.boat(5, 1), 1);
    }

    private static void boatNumbers() {
        says("Promise 15: Of a boat: BOATS 0 .. 5; BAD");
        edges("boat(v, 5)", BoundariesTest::six, (x, v) -> x.boat(v, 5), 0, 5, 1, 1);
        edges("boat(v, 5) of one", () -> told(ONE), (x, v) -> x.boat(v, 5), 0, 0, 1, 1);
        says("Promise 15: 0 how far OFF .. 5 OFF as told; BAD");
        edges("boat(0, v)", () -> {
            SpringIsle x = sixSent();
            x.hours(1);
            return x;
        }, (x, v) -> x.boat(0, v), 0, 5, 0, 1);
        due("boat(6, 6)", six().boat(6, 6), BAD);
    }

    private static void cellNumbers() {
        says("Promise 16: Of a CELL: CELLS 0 .. 5; BAD");
        edges("cell(v, 0)", BoundariesTest::six, (x, v) -> x.cell(v, 0), 0, 5, 5, 5);
        edges("cell(v, 0) of one", () -> told(ONE), (x, v) -> x.cell(v, 0), 0, 0, 5, 5);
        says("Promise 16: 0 HEIGHT, 1 whether DRY; BAD");
        edges("cell(0, v)", BoundariesTest::six, (x, v) -> x.cell(0, v), 0, 1, 5, 1);
        says("A CELL is DRY, if HEIGHT is above WATER: not by the same");
        SpringIsle x = told("i2,30,0;h30;h29;h0;o1,1;");
        due("30 by 30", x.cell(0, 1), 0);
        x.sand(0, 1);
        due("31 by 30", x.cell(0, 1), 1);
        x.hours(1);
        due("29 by 0", x.cell(1, 1), 1);
        due("0 by 0", x.cell(2, 1), 0);
        x.sand(2, 1);
        due("1 by 0", x.cell(2, 1), 1);
    }

    private static void standNumbers() {
        says("Promise 17: 0 WATER .. 5 boats that are THERE; BAD");
        edges("stand(v)", () -> {
            SpringIsle x = sixSent();
            x.hours(2);
            return x;
        }, (x, v) -> x.stand(v), 0, 5, 1, 63);
        says("Promise 17: STATE: no ISLE (ahead of BAD)");
        due("stand(6)", none().stand(6), STATE);
        due("stand(-1)", none().stand(-1), STATE);
        says("Promise 17: OWNER (NONE), SENT and THERE of none");
        due("stand(2)", six().stand(2), NONE);
        due("stand(4)", six().stand(4), 0);
        due("stand(5)", six().stand(5), 0);
        says("the ISLE SHOWS, if one CELL is DRY, the last one, too");
        due("stand(1), none", told("i2,5,0;h5;h5;h5;h5;h5;h5;o1,1;").stand(1), 0);
        due("stand(1), the last", told("i2,5,0;h5;h5;h5;h5;h5;h6;o1,1;").stand(1), 1);
        due("stand(1), the first", told("i2,5,0;h6;h5;h5;h5;h5;h5;o1,1;").stand(1), 1);
    }

    private static void waterEdges() {
        says("WATER: h is what is left over of HOUR by PERIOD (it is 0 again in HOUR PERIOD)");
        for (int period = 2; period <= 24; period++) {
            SpringIsle x = told("i" + period + ",30,0;h0;o1,1;");
            due("WATER of 0 by " + period, x.stand(0), 30);
            x.hours(period - 1);
            // By the last h it is off PERIOD by PERIOD less 2, as by h 1.
            due("WATER of the last by " + period, x.stand(0), 30 * (period - 2) / period);
            x.hours(1);
            due("WATER of " + period + " by " + period, x.stand(0), 30);
        }
        says("WATER: all that is divided is cut towards 0");
        int[] five = {7, 4, 1, 1, 4, 7};
        int[] three = {1, 0, 0, 1, 0, 0};
        SpringIsle x = told("i5,7,3;h4;s2,2;");
        SpringIsle y = told("i3,1,3;h4;s2,2;");
        for (int hour = 0; hour < 6; hour++) {
            due("WATER of " + hour + " by 5, 7", x.stand(0), five[hour]);
            due("WATER of " + hour + " by 3, 1", y.stand(0), three[hour]);
            x.hours(1);
            y.hours(1);
        }
    }

    private static void wayEdges() {
        says("WAY of a sail: SPEED times WIND, by 2 (cut)");
        ways("s", 1, 0, 0, 1, 1);
        ways("s", 9, 0, 4, 9, 13);
        says("WAY of a cutter: that, and 1 more, if WIND is not 0");
        ways("c", 1, 0, 1, 2, 2);
        ways("c", 9, 0, 5, 10, 14);
        says("WAY of one with oars: 2, and half of SPEED (cut) more if WIND is 0");
        ways("o", 1, 2, 2, 2, 2);
        ways("o", 2, 3, 2, 2, 2);
        ways("o", 9, 6, 2, 2, 2);
        says("WAY of a ferry: SPEED, if the ISLE SHOWS, else 0");
        ways("f", 1, 1, 1, 1, 1);
        ways("f", 9, 9, 9, 9, 9);
        due("a ferry, under water", told("i2,5,0;h5;f9,9;").boat(0, 3), 0);
        due("a ferry, not under water", told("i2,5,0;h6;f9,9;").boat(0, 3), 9);
        says("WAY of a raft: that, and WIND less, 0 at least");
        ways("r", 1, 1, 0, 0, 0);
        ways("r", 2, 2, 1, 0, 0);
        ways("r", 3, 3, 2, 1, 0);
        ways("r", 9, 9, 8, 7, 6);
        due("a raft, under water", told("i2,5,0;h5;r9,9;").boat(0, 3), 0);
        due("a raft, under water, by WIND", told("i2,5,3;h5;r9,9;").boat(0, 3), 0);
    }

    private static void ways(String sort, int speed, int... byWind) {
        for (int wind = 0; wind <= 3; wind++) {
            SpringIsle x = told("i2,1," + wind + ";h5;" + sort + "60," + speed + ";");
            due("WAY of " + sort + speed + " by " + wind, x.boat(0, 3), byWind[wind]);
            x.send(0, 1);
            x.hours(1);
            due("OFF of " + sort + speed + " by " + wind, x.boat(0, 0), 60 - byWind[wind]);
        }
    }

    private static void hourEdges() {
        says("An HOUR: each boat that is SENT is as much less OFF as its WAY (0 at least)");
        SpringIsle x = told("i2,1,0;h5;o2,1;o3,1;o1,9;o0,9;o4,1;");
        for (int b = 0; b < 5; b++) x.send(b, 1);
        x.hours(1);
        int[] off = {0, 1, 0, 0, 2};
        for (int b = 0; b < 5; b++) due("OFF of " + b, x.boat(b, 0), off[b]);
        says("each that is not is 1 more OFF, if that is no more than it was told to be OFF");
        x = told("i2,1,0;h5;o3,1;o0,1;o60,1;");
        x.hours(1);
        due("OFF as told stays", x.boat(0, 0), 3);
        due("OFF by 0 stays", x.boat(1, 0), 0);
        due("OFF by 60 stays", x.boat(2, 0), 60);
        x.send(0, 1);
        x.hours(2);
        x.send(0, 0);
        for (int k = 1; k <= 5; k++) {
            x.hours(1);
            due("OFF " + k + " HOURS back", x.boat(0, 0), Math.min(k, 3));
        }
        says("WAY is that of the HOUR that passes, not of the next");
        // It SHOWS in odd HOURS alone.
        x = told("i2,5,0;h5;f9,4;");
        x.send(0, 1);
        x.hours(1);
        due("a ferry in HOUR 0", x.boat(0, 0), 9);
        x.hours(1);
        due("a ferry in HOUR 1", x.boat(0, 0), 5);
    }

    private static void ownerEdges() {
        says("if the ISLE does not SHOW in this HOUR, nobody is OWNER");
        SpringIsle x = told("i2,5,0;h5;o0,1;o0,1;");
        due("HOUR 0", x.hours(1), NONE);
        due("HOUR 1", x.hours(1), 0);
        due("HOUR 2", x.hours(1), NONE);
        says("OWNER has HELD it an HOUR more: nobody has in an HOUR without one");
        due("count(5)", x.count(5), 1);
        says("who is OWNER stays so, if THERE");
        x = told("i2,1,0;h5;o2,1;o1,1;o1,1;");
        x.send(2, 1);
        due("boat 2 is first", x.hours(1), 2);
        x.send(0, 1);
        x.send(1, 1);
        due("boat 2 stays", x.hours(1), 2);
        says("if not, the first of the boats that are THERE becomes OWNER");
        x.send(2, 0);
        due("boat 0 then", x.hours(1), 0);
        says("nobody, if none is");
        x.send(0, 0);
        x.send(1, 0);
        due("nobody then", x.hours(1), NONE);
        says("if nobody is, the first of the boats that are THERE becomes OWNER");
        x.send(1, 1);
        x.send(2, 1);
        due("boat 1 then", x.hours(1), 1);
        says("OWNER is lost under water, and the first one has it at the next tide");
        x = told("i2,5,0;h5;o1,1;o1,1;");
        x.send(1, 1);
        due("HOUR 1", x.hours(2), 1);
        x.send(0, 1);
        due("HOUR 3", x.hours(2), 0);
    }

    // ---- foretold

    private static void aheadNumbers() {
        says("Promise 18: AHEAD by n HOURS (0 to 60): how far OFF; BAD");
        edges("ahead(0, v)", () -> slowSent(60), (x, v) -> x.ahead(0, v), 0, 60, 60, 0);
        due("ahead(0, 59)", slowSent(60).ahead(0, 59), 1);
        edges("ahead(v, 1)", BoundariesTest::six, (x, v) -> x.ahead(v, 1), 0, 5, 1, 1);
        edges("ahead(v, 1) of one", () -> told(ONE), (x, v) -> x.ahead(v, 1), 0, 0, 1, 1);
        says("Promise 19: AHEAD: OWNER (0 to 60); NONE; BAD");
        edges("owner(v)", () -> slowSent(60), (x, v) -> x.owner(v), 0, 60, NONE, 0);
        due("owner(59)", slowSent(60).owner(59), NONE);
        SpringIsle x = sixSent();
        x.hours(1);
        due("owner(0), now", x.owner(0), 0);
        says("Promise 19: STATE: no ISLE (ahead of BAD)");
        due("owner(61)", none().owner(61), STATE);
        due("owner(-1)", none().owner(-1), STATE);
        says("Promise 20: HELD of a boat n HOURS on (0 to 60); BAD");
        edges("held(0, v)", () -> slowSent(60), (y, v) -> y.held(0, v), 0, 60, 0, 1);
        due("held(0, 59)", slowSent(60).held(0, 59), 0);
        edges("held(v, 60)", BoundariesTest::sixSent, (y, v) -> y.held(v, 60), 0, 5, 60, 0);
        edges("held(v, 60) of one", BoundariesTest::ownedByZero, (y, v) -> y.held(v, 60), 0, 0, 60, 60);
        due("held(0, 0), now", x.held(0, 0), 1);
    }

    private static void showsEdges() {
        says("Promise 21: behind how many HOURS (0: in this one) it SHOWS first");
        due("shows() of 0", six().shows(), 0);
        // HEIGHT 1 by HIGH 30, PERIOD 24: in h 12 alone.
        SpringIsle x = told("i24,30,0;h1;o1,1;");
        due("shows() in 0", x.shows(), 12);
        x.hours(11);
        due("shows() in 11", x.shows(), 1);
        x.hours(1);
        due("shows() in 12", x.shows(), 0);
        x.hours(1);
        due("shows() in 13", x.shows(), 23);
        says("Promise 21: NONE");
        due("shows() of NEVER", told(NEVER).shows(), NONE);
        says("Promise 21: STATE: no ISLE");
        due("shows()", none().shows(), STATE);
    }

    private static void dryAndOpenNumbers() {
        // WATER 5 0: the first CELL is DRY in odd HOURS, the second always, the third never.
        says("Promise 22: DRY in the next n HOURS (1 to 60): CELLS that are, in one at least; BAD");
        Supplier<SpringIsle> odd = () -> told("i2,5,0;h5;h6;h0;o1,1;");
        edges("dry(v)", odd, (x, v) -> x.dry(v), 1, 60, 2, 3);
        due("dry(2)", odd.get().dry(2), 3);
        due("dry(60) of NEVER", told(NEVER).dry(60), 0);
        edges("dry(v) of six", BoundariesTest::six, (x, v) -> x.dry(v), 1, 60, 63, 63);
        says("Promise 22: the HOUR that is now counts, the one behind n does not");
        SpringIsle y = told("i24,30,0;h1;o1,1;");
        due("dry(12)", y.dry(12), 0);
        due("dry(13)", y.dry(13), 1);
        y.hours(12);
        due("dry(1)", y.dry(1), 1);
        y.hours(1);
        due("dry(23)", y.dry(23), 0);
        due("dry(24)", y.dry(24), 1);
        says("Promise 22: STATE: no ISLE (ahead of BAD)");
        due("dry(0)", none().dry(0), STATE);
        due("dry(61)", none().dry(61), STATE);
        says("Promise 23: HOURS of the next n (1 to 60) in which it SHOWS; BAD");
        edges("open(v)", BoundariesTest::six, (x, v) -> x.open(v), 1, 60, 1, 60);
        edges("open(v) of NEVER", () -> told(NEVER), (x, v) -> x.open(v), 1, 60, 0, 0);
        y = told("i24,30,0;h1;o1,1;");
        due("open(12)", y.open(12), 0);
        due("open(13)", y.open(13), 1);
        due("open(36)", y.open(36), 1);
        due("open(37)", y.open(37), 2);
        due("open(60)", y.open(60), 2);
        says("Promise 23: STATE: no ISLE (ahead of BAD)");
        due("open(0)", none().open(0), STATE);
        due("open(61)", none().open(61), STATE);
    }

    private static void firstNumbers() {
        says("Promise 24: the boat that is OWNER first, of n HOURS (1 to 60); NONE; BAD");
        edges("first(v)", () -> slowSent(60), (x, v) -> x.first(v), 1, 60, NONE, 0);
        due("first(59)", slowSent(60).first(59), NONE);
        due("first(1)", slowSent(1).first(1), 0);
        due("first(60) of NEVER", told(NEVER).first(60), NONE);
        says("Promise 24: now OWNER: it");
        SpringIsle x = sixSent();
        x.hours(1);
        x.send(0, 0);
        due("first(1)", x.first(1), 0);
        due("owner(1)", x.owner(1), 1);
        says("Promise 24: STATE: no ISLE (ahead of BAD)");
        due("first(0)", none().first(0), STATE);
        due("first(61)", none().first(61), STATE);
    }

    private static void latestNumbers() {
        says("Promise 25: SAIL, n HOURS (1 to 40); BAD");
        edges("latest(0, v)", () -> slow(40), (x, v) -> x.latest(0, v), 1, 40, NONE, 0);
        due("latest(0, 39)", slow(40).latest(0, 39), NONE);
        edges("latest(v, 40)", BoundariesTest::six, (x, v) -> x.latest(v, 40), 0, 5, 39, 39);
        edges("latest(v, 40) of one", () -> told(ONE), (x, v) -> x.latest(v, 40), 0, 0, 39, 39);
        says("Promise 25: behind how many HOURS (0 to n less 1)");
        due("latest(0, 1)", slow(1).latest(0, 1), 0);
        due("latest(0, 2)", slow(1).latest(0, 2), 1);
        due("latest(0, 40)", slow(1).latest(0, 40), 39);
        due("latest(0, 40) of 2", slow(2).latest(0, 40), 38);
        due("latest(0, 40) of 39", slow(39).latest(0, 40), 1);
        due("latest(0, 40) of one that is THERE", slow(0).latest(0, 40), 39);
        says("Promise 25: the tide goes on while it waits");
        // It SHOWS in the HOURS 2, 6, .. alone, by which a ferry makes its way.
        due("latest(0, 3)", told(SMALL).latest(0, 3), 2);
        due("latest(0, 2), not yet dry", told(SMALL).latest(0, 2), NONE);
        due("latest(0, 4), under water again", told(SMALL).latest(0, 4), NONE);
        due("latest(2, 7)", told(SMALL).latest(2, 7), 2);
        due("latest(2, 3)", told(SMALL).latest(2, 3), NONE);
        says("Promise 25: all others as they are: one that is SENT has it first");
        SpringIsle x = six();
        x.send(3, 1);
        due("latest(4, 40)", x.latest(4, 40), NONE);
        due("latest(2, 40), in the same HOUR", x.latest(2, 40), 0);
        says("Promise 25: NONE");
        due("latest(0, 40) of 41", slow(41).latest(0, 40), NONE);
        due("latest(0, 40) of NEVER", told(NEVER).latest(0, 40), NONE);
        says("Promise 25: STATE: it is SENT");
        due("latest(0, 1)", slowSent(1).latest(0, 1), STATE);
        due("latest(0, 40)", slowSent(1).latest(0, 40), STATE);
        says("Promise 25: BAD ahead of STATE");
        due("latest(0, 0)", slowSent(1).latest(0, 0), BAD);
        due("latest(0, 41)", slowSent(1).latest(0, 41), BAD);
    }

    private static void windsNumbers() {
        says("Promise 26: WINDS (0 to 3, bits), n HOURS (1 to 60); BAD");
        edges("winds(0, v)", () -> slowSent(60), (x, v) -> x.winds(0, v), 1, 60, 0, 14);
        due("winds(0, 59)", slowSent(60).winds(0, 59), 12);
        due("winds(0, 30)", slowSent(60).winds(0, 30), 12);
        due("winds(0, 29)", slowSent(60).winds(0, 29), 8);
        due("winds(0, 20)", slowSent(60).winds(0, 20), 8);
        due("winds(0, 19)", slowSent(60).winds(0, 19), 0);
        due("winds(0, 1)", slowSent(1).winds(0, 1), 14);
        due("winds(0, 1), all", slowSent(0).winds(0, 1), 15);
        edges("winds(v, 1)", BoundariesTest::sixSent, (x, v) -> x.winds(v, 1), 0, 5, 15, 0);
        edges("winds(v, 1) of one", BoundariesTest::ownedByZero, (x, v) -> x.winds(v, 1), 0, 0, 15, 15);
    }

    private static void recallNumbers() {
        says("Promise 27: KEEP for a boat, n HOURS (1 to 40); NONE; BAD");
        edges("recall(0, v, 0)", () -> slowSent(40), (x, v) -> x.recall(0, v, 0), 1, 40, NONE, 0);
        due("recall(0, 39, 0)", slowSent(40).recall(0, 39, 0), NONE);
        due("recall(0, 1, 0)", slowSent(1).recall(0, 1, 0), 0);
        edges("recall(v, 1, 0)", BoundariesTest::sixSent, (x, v) -> x.recall(v, 1, 0), 0, 5, 0, 5);
        edges("recall(v, 40, 1)", BoundariesTest::sixSent, (x, v) -> x.recall(v, 40, 1), 0, 5, 0, 31);
        edges("recall(v, 1, 0) of one", BoundariesTest::ownedByZero, (x, v) -> x.recall(v, 1, 0), 0, 0, 0, 0);
        says("Promise 27: how many (what = 0), which (1); BAD");
        edges("recall(3, 1, v)", BoundariesTest::sixSent, (x, v) -> x.recall(3, 1, v), 0, 1, 3, 7);
        says("Promise 27: NONE, by either");
        due("recall(0, 40, 0) of NEVER", told(NEVER).recall(0, 40, 0), NONE);
        due("recall(0, 40, 1) of NEVER", told(NEVER).recall(0, 40, 1), NONE);
        says("Promise 27: the fewest other boats, of those SENT: never the boat itself, nor one that is not SENT");
        SpringIsle x = told("i2,1,0;h5;o0,1;o1,1;");
        x.send(0, 1);
        x.send(1, 1);
        due("boat 0 is THERE as told, called back or not", x.recall(1, 1, 0), NONE);
        x = six();
        x.send(1, 1);
        x.send(4, 1);
        due("recall(4, 1, 1)", x.recall(4, 1, 1), 2);
        due("recall(0, 1, 1), not SENT", x.recall(0, 1, 1), NONE);
        says("Promise 27: which (bits)");
        // Boats 1 and 2 are THERE as soon as boat 3, and stand ahead of it; boat 0 comes later.
        x = told("i2,1,1;h5;s2,2;o1,1;c1,1;s1,2;");
        for (int b = 0; b < 4; b++) x.send(b, 1);
        due("recall(3, 1, 1)", x.recall(3, 1, 1), 6);
        due("recall(3, 1, 0)", x.recall(3, 1, 0), 2);
        // The next boat, and the last, come sooner, though their numbers are greater.
        x = told("i2,1,0;h5;o9,1;o1,1;o20,1;o20,1;o20,1;o1,1;");
        for (int b = 0; b < 6; b++) x.send(b, 1);
        due("recall(0, 5, 1)", x.recall(0, 5, 1), 34);
        due("recall(0, 5, 0)", x.recall(0, 5, 0), 2);
        due("recall(0, 4, 0), not THERE yet", x.recall(0, 4, 0), NONE);
    }

    private static void fleetNumbers() {
        says("Promise 28: FLEET for n HOURS (1 to 40); NONE; BAD");
        edges("fleet(v, 0)", () -> slow(40), (x, v) -> x.fleet(v, 0), 1, 40, NONE, 1);
        edges("fleet(v, 1)", () -> slow(40), (x, v) -> x.fleet(v, 1), 1, 40, NONE, 1);
        due("fleet(39, 0)", slow(40).fleet(39, 0), NONE);
        due("fleet(1, 1)", slow(1).fleet(1, 1), 1);
        says("Promise 28: how many (what = 0), which (1); BAD");
        edges("fleet(1, v)", () -> told("i2,1,0;h5;o9,1;o9,1;o9,1;o9,1;o9,1;o1,1;"), (x, v) -> x.fleet(1, v), 0, 1, 1, 32);
        says("Promise 28: of several the least");
        due("fleet(1, 1) of six", six().fleet(1, 1), 1);
        due("fleet(1, 1) of the third and the fifth", told("i2,1,0;h5;o9,1;o9,1;o1,1;o9,1;o1,1;").fleet(1, 1), 4);
        says("Promise 28: none at all, if one is THERE as it is");
        due("fleet(1, 0)", slow(0).fleet(1, 0), 0);
        due("fleet(1, 1)", slow(0).fleet(1, 1), 0);
        says("Promise 28: NONE, by either");
        due("fleet(40, 0) of NEVER", told(NEVER).fleet(40, 0), NONE);
        due("fleet(40, 1) of NEVER", told(NEVER).fleet(40, 1), NONE);
        says("Promise 28: all others called back: one that is SENT now does not count");
        SpringIsle x = told("i2,1,0;h5;o9,1;o1,1;");
        x.send(0, 1);
        x.send(1, 1);
        due("fleet(1, 0)", x.fleet(1, 0), 1);
        due("fleet(1, 1)", x.fleet(1, 1), 2);
        says("Promise 28: STATE: no ISLE (ahead of BAD)");
        due("fleet(0, 0)", none().fleet(0, 0), STATE);
        due("fleet(1, 2)", none().fleet(1, 2), STATE);
    }

    private static void sandForNumbers() {
        says("Promise 29: SAND for n HOURS (1 to 60); BAD");
        edges("sandFor(v)", () -> told("i2,5,0;h9;o1,1;"), (x, v) -> x.sandFor(v), 1, 60, 6, 6);
        says("Promise 29: in all of them: not in the one behind n");
        SpringIsle x = told("i24,24,0;h0;o1,1;");
        x.hours(12);
        // WATER 0 2 4 .. from here on.
        due("sandFor(1)", x.sandFor(1), 1);
        due("sandFor(2)", x.sandFor(2), 3);
        due("sandFor(3)", x.sandFor(3), 5);
        due("sandFor(12)", x.sandFor(12), 23);
        due("sandFor(13)", x.sandFor(13), 25);
        due("sandFor(60)", x.sandFor(60), 25);
        says("Promise 29: the least HEIGHT (0 to 40) of CELL 0");
        due("sandFor(60), another CELL shows always", told("i2,5,0;h9;h6;o1,1;").sandFor(60), 0);
        due("sandFor(60), another CELL shows at times", told("i2,5,0;h9;h5;o1,1;").sandFor(60), 6);
        due("sandFor(60) by the highest WATER", told("i2,30,0;h0;o1,1;").sandFor(60), 31);
        says("Promise 29: STATE: no ISLE (ahead of BAD)");
        due("sandFor(0)", none().sandFor(0), STATE);
        due("sandFor(61)", none().sandFor(61), STATE);
    }

    private static SpringIsle twelve() {
        SpringIsle x = slowSent(12);
        for (int r = 0; r < 8; r++) {
            x.row(r, r % 3, 40);
            for (int i = 0; i < 11; i++) x.set(r, i, -1);
            for (int i = 28; i < 39; i++) x.set(r, i, -1);
        }
        return x;
    }

    private static void whoNumbers() {
        says("Promise 30: OWNER behind each of n HOURS (1 to 12); BAD: n");
        edges("who(0, 2, 0, 0, v)", BoundariesTest::twelve, (x, v) -> x.who(0, 2, 0, 0, v), 1, 12, 15, 2);
        due("who(0, 2, 0, 0, 11)", twelve().who(0, 2, 0, 0, 11), 3);
        says("Promise 30: KINDS (which = 0), SPEEDS (1), WINDS (2); BAD: which");
        edges("who(0, v, 0, 0, 12)", BoundariesTest::twelve, (x, v) -> x.who(0, v, 0, 0, 12), 0, 2, 34, 2);
        due("who(0, 1, 0, 0, 12)", twelve().who(0, 1, 0, 0, 12), 12);
        says("Promise 30: KINDS (bits 1 to 5), SPEEDS (1 to 9, bits), WINDS (0 to 3, bits): all of them");
        due("KINDS", twelve().who(0, 0, 0, 0, 1), 62);
        due("SPEEDS", twelve().who(0, 1, 0, 0, 1), 1022);
        due("WINDS", twelve().who(0, 2, 0, 0, 1), 15);
        says("Promise 30: none of them");
        for (int which = 0; which <= 2; which++) due("which " + which, twelve().who(0, which, 0, 11, 1), 0);
        says("Promise 30: BAD: BOAT");
        edges("who(v, 2, 0, 0, 12)", BoundariesTest::twelve, (x, v) -> x.who(v, 2, 0, 0, 12), 0, 0, 2, 2);
        edges("who(v, 0, 0, 0, 1)", () -> {
            SpringIsle x = six();
            items(x, 0, 0, -1);
            return x;
        }, (x, v) -> x.who(v, 0, 0, 0, 1), 0, 5, 62, 62);
        says("Promise 30: BAD: ROW");
        edges("who(0, 2, v, 0, 12)", BoundariesTest::twelve, (x, v) -> x.who(0, 2, v, 0, 12), 0, 7, 2, 2);
        says("Promise 30: n ITEMS of a ROW from i on; PLACE");
        edges("who(0, 2, 0, v, 12)", BoundariesTest::twelve, (x, v) -> x.who(0, 2, 0, v, 12), 0, 28, 2, 2, PLACE, PLACE);
        edges("who(0, 2, 0, v, 1)", BoundariesTest::twelve, (x, v) -> x.who(0, 2, 0, v, 1), 0, 39, 15, 0, PLACE, PLACE);
        says("Promise 30: NULL");
        for (int r = 0; r < 8; r++) due("who of " + r, slow(1).who(0, 0, r, 0, 1), NULL);
        says("Promise 30: BAD ahead of NULL ahead of PLACE");
        due("n 0 of a missing one", slow(1).who(0, 0, 0, 0, 0), BAD);
        due("n 13 of a missing one", slow(1).who(0, 0, 0, 0, 13), BAD);
        due("which 3 of a missing one", slow(1).who(0, 3, 0, 0, 1), BAD);
        due("boat 1 of a missing one", slow(1).who(1, 0, 0, 0, 1), BAD);
        due("n 0 at no place", twelve().who(0, 0, 0, 41, 0), BAD);
        due("n 13 beyond the end", twelve().who(0, 0, 0, 40, 13), BAD);
        due("no place of a missing one", slow(1).who(0, 0, 0, -1, 1), NULL);
        due("a ROW of none", wantsPlace(), PLACE);
        says("Promise 30: without an ISLE there is no boat: BAD");
        due("who", fullRows().who(0, 0, 0, 0, 1), BAD);
    }

    private static int wantsPlace() {
        SpringIsle x = slow(1);
        x.row(0, 0, 0);
        return x.who(0, 0, 0, 0, 1);
    }

    private static void barredNumbers() {
        says("Promise 31: n ITEMS (1 to 12); BAD: n");
        edges("barred(0, 0, v)", BoundariesTest::twelve, (x, v) -> x.barred(0, 0, v), 1, 12, 65, 64);
        due("barred(0, 0, 11)", twelve().barred(0, 0, 11), 65);
        says("Promise 31: BAD: ROW");
        edges("barred(v, 0, 12)", BoundariesTest::twelve, (x, v) -> x.barred(v, 0, 12), 0, 7, 64, 64);
        says("Promise 31: n ITEMS of a ROW from i on; PLACE");
        edges("barred(0, v, 12)", BoundariesTest::twelve, (x, v) -> x.barred(0, v, 12), 0, 28, 64, 64, PLACE, PLACE);
        edges("barred(0, v, 1)", BoundariesTest::twelve, (x, v) -> x.barred(0, v, 1), 0, 39, 65, 0, PLACE, PLACE);
        says("Promise 31: NULL");
        for (int r = 0; r < 8; r++) due("barred of " + r, slow(1).barred(r, 0, 1), NULL);
        says("Promise 31: BAD ahead of NULL ahead of PLACE");
        due("n 0 of a missing one", slow(1).barred(0, 0, 0), BAD);
        due("n 13 of a missing one", slow(1).barred(0, 0, 13), BAD);
        due("n 13 beyond the end", twelve().barred(0, 40, 13), BAD);
        due("no place of a missing one", slow(1).barred(0, -1, 1), NULL);
        says("Promise 31: STATE: no ISLE (ahead of BAD), ahead of NULL, PLACE, too");
        due("barred(8, 0, 1)", none().barred(8, 0, 1), STATE);
        due("barred(0, 0, 13)", none().barred(0, 0, 13), STATE);
        due("barred(0, 0, 1)", none().barred(0, 0, 1), STATE);
        due("barred(0, 40, 1)", fullRows().barred(0, 40, 1), STATE);
        says("Promise 31: boats (bits), 64 more, if it is so as it is: none, all, 64 alone");
        SpringIsle x = sixSent();
        items(x, 0, 0, 0);
        items(x, 1, 0, 1);
        items(x, 2, 0, 2);
        items(x, 3, 0, -1);
        due("boat 0 has it as it is", x.barred(0, 0, 1), 64 + 62);
        due("boat 1 has it, if 0 is called back", x.barred(1, 0, 1), 1);
        due("boat 2 would, if two were", x.barred(2, 0, 1), 0);
        due("nobody would, if all were", x.barred(3, 0, 1), 0);
        x = six();
        items(x, 3, 0, -1);
        due("nobody is SENT", x.barred(3, 0, 1), 64);
    }

    private static void richEdges() {
        says("Promise 32: NONE: nobody ever");
        due("rich()", six().rich(), NONE);
        says("Promise 32: who HELD it most, of several the first");
        due("the first boat alone", firstHasHeld().rich(), 0);
        SpringIsle x = six();
        x.send(5, 1);
        x.hours(1);
        due("the last boat alone", x.rich(), 5);
        x.send(5, 0);
        x.send(2, 1);
        x.hours(1);
        due("1 to 1", x.rich(), 2);
        x.send(2, 0);
        x.send(5, 1);
        x.hours(1);
        due("2 to 1", x.rich(), 5);
        says("Promise 32: STATE: no ISLE");
        due("rich()", none().rich(), STATE);
    }

    private static SpringIsle firstHasHeld() {
        SpringIsle x = sixSent();
        x.hours(1);
        return x;
    }

    private static void wreckNumbers() {
        says("Promise 33: n HOURS (0 to 60); BAD");
        edges("wreck(0, v, 3, 0)", () -> slowSent(60), (x, v) -> x.wreck(0, v, 3, 0), 0, 60, 0, 7);
        edges("wreck(0, v, 3, 1)", () -> slowSent(60), (x, v) -> x.wreck(0, v, 3, 1), 0, 60, 1, 10);
        due("wreck(0, 59, 3, 0)", slowSent(60).wreck(0, 59, 3, 0), 0);
        due("wreck(0, 59, 3, 1)", slowSent(60).wreck(0, 59, 3, 1), 1);
        says("Promise 33: by p of 10 (0 to 10); BAD");
        edges("wreck(0, 1, v, 0)", BoundariesTest::sixSent, (x, v) -> x.wreck(0, 1, v, 0), 0, 10, 1, 0);
        edges("wreck(0, 1, v, 1)", BoundariesTest::sixSent, (x, v) -> x.wreck(0, 1, v, 1), 0, 10, 1, 1);
        edges("wreck(1, 1, v, 0)", BoundariesTest::sixSent, (x, v) -> x.wreck(1, 1, v, 0), 0, 10, 0, 0);
        due("wreck(5, 1, 9, 0)", sixSent().wreck(5, 1, 9, 0), 59049);
        due("wreck(5, 1, 9, 1)", sixSent().wreck(5, 1, 9, 1), 1000000);
        due("wreck(5, 1, 1, 0)", sixSent().wreck(5, 1, 1, 0), 9);
        due("wreck(5, 1, 1, 1)", sixSent().wreck(5, 1, 1, 1), 1000000);
        says("Promise 33: above (what = 0), below (1); BAD");
        edges("wreck(0, 1, 3, v)", () -> slowSent(1), (x, v) -> x.wreck(0, 1, 3, v), 0, 1, 7, 10);
        says("Promise 33: BAD: boat");
        edges("wreck(v, 1, 0, 0)", BoundariesTest::sixSent, (x, v) -> x.wreck(v, 1, 0, 0), 0, 5, 1, 0);
        edges("wreck(v, 1, 0, 0) of one", () -> slowSent(1), (x, v) -> x.wreck(v, 1, 0, 0), 0, 0, 1, 1);
        says("fractions in lowest terms (0 is 0 by 1)");
        int[][] byP = {{1, 1}, {9, 10}, {4, 5}, {7, 10}, {3, 5}, {1, 2}, {2, 5}, {3, 10}, {1, 5}, {1, 10}, {0, 1}};
        for (int p = 0; p <= 10; p++) {
            due("above by " + p, slowSent(1).wreck(0, 1, p, 0), byP[p][0]);
            due("below by " + p, slowSent(1).wreck(0, 1, p, 1), byP[p][1]);
        }
        due("boat 1 of six by 2, above", sixSent().wreck(1, 1, 2, 0), 4);
        due("boat 1 of six by 2, below", sixSent().wreck(1, 1, 2, 1), 25);
        says("Promise 33: nobody is SENT: one case");
        due("above", six().wreck(0, 60, 5, 0), 0);
        due("below", six().wreck(0, 60, 5, 1), 1);
        due("above, THERE", slow(0).wreck(0, 60, 5, 0), 1);
        due("below, THERE", slow(0).wreck(0, 60, 5, 1), 1);
        says("Promise 33: behind 0 HOURS: who is OWNER now");
        SpringIsle x = sixSent();
        x.hours(1);
        due("above", x.wreck(0, 0, 9, 0), 1);
        due("below", x.wreck(0, 0, 9, 1), 1);
        due("above, of another", x.wreck(1, 0, 9, 0), 0);
        due("below, of another", x.wreck(1, 0, 9, 1), 1);
    }

    private static void drawnNumbers() {
        Supplier<SpringIsle> there = () -> told("i2,1,0;h5;s0,1;");
        says("Promise 34: YEARS of n HOURS (0 to 60); BAD");
        edges("drawn(v, 7, 0)", there, (x, v) -> x.drawn(v, 7, 0), 0, 60, 0, 60);
        edges("drawn(v, 7, 1)", there, (x, v) -> x.drawn(v, 7, 1), 0, 60, 0, 1);
        says("Promise 34: a SEED (1 to 999999); BAD");
        edges("drawn(60, v, 0)", there, (x, v) -> x.drawn(60, v, 0), 1, 999999, 60, 60);
        says("Promise 34: HOURS (what = 0), how often (1); BAD");
        edges("drawn(60, 7, v)", there, (x, v) -> x.drawn(60, 7, v), 0, 1, 60, 1);
        says("Promise 34: STATE: no ISLE (ahead of BAD)");
        due("drawn(-1, 1, 0)", none().drawn(-1, 1, 0), STATE);
        due("drawn(0, 0, 0)", none().drawn(0, 0, 0), STATE);
        due("drawn(0, 1, 2)", none().drawn(0, 1, 2), STATE);
        says("X becomes the rest of (X times 16807) by 2147483647: more than an int holds");
        // By 999999 WIND is 0 0 3 3 0 2 0 2 0 2 1 2, and the boat, SENT, makes as much; the 12th X calls it back.
        int[] made = {0, 0, 3, 6, 6, 8, 8, 10, 10, 12, 13};
        for (int n = 1; n <= 11; n++) {
            if (made[n - 1] > 0) due("drawn(" + n + ", 999999, 0)", slowSent(made[n - 1]).drawn(n, 999999, 0) > 0 ? 1 : 0, 1);
            due("drawn(" + n + ", 999999, 0), 1 more OFF", slowSent(made[n - 1] + 1).drawn(n, 999999, 0), 0);
        }
        due("drawn(12, 999999, 0)", slowSent(12).drawn(12, 999999, 0), 2);
        says("if X by 5 leaves 0, the boat that is the rest of X by how many there are is SENT, else called back");
        // By 1 the 5th X, 1144108930, sends boat 4 of six; it has it from then on (the 11th, the 12th are of 0, 5).
        due("drawn(4, 1, 0)", six().drawn(4, 1, 0), 0);
        due("drawn(5, 1, 0)", six().drawn(5, 1, 0), 1);
        due("drawn(12, 1, 0)", six().drawn(12, 1, 0), 8);
        due("drawn(12, 1, 1)", six().drawn(12, 1, 1), 1);
        says("how often OWNER was another boat than the latest one (nobody does not count)");
        // It SHOWS in odd HOURS alone, boat 0 is THERE always: one and the same, with nobody between.
        due("drawn(60, 7, 0)", told("i2,5,0;h5;s0,1;").drawn(60, 7, 0), 30);
        due("drawn(60, 7, 1)", told("i2,5,0;h5;s0,1;").drawn(60, 7, 1), 1);
        due("drawn(60, 7, 1) of NEVER", told(NEVER).drawn(60, 7, 1), 0);
        says("the first one in these, too: though it is OWNER now");
        SpringIsle x = there.get();
        x.hours(3);
        due("drawn(1, 7, 1)", x.drawn(1, 7, 1), 1);
        due("drawn(1, 7, 0)", x.drawn(1, 7, 0), 1);
        due("drawn(0, 7, 1)", x.drawn(0, 7, 1), 0);
    }

    private static void imageNumbers() {
        says("Promise 35: An IMAGE (0, 1): 1; BAD");
        edges("image(v)", BoundariesTest::six, (x, v) -> x.image(v), 0, 1, 1, 1);
        says("Promise 35: STATE: no ISLE, behind BAD");
        edges("image(v) without an ISLE", BoundariesTest::none, (x, v) -> x.image(v), 0, 1, STATE, STATE);
        says("Promise 36: BAD");
        edges("restore(v)", () -> {
            SpringIsle x = six();
            x.image(0);
            x.image(1);
            return x;
        }, (x, v) -> x.restore(v), 0, 1, 1, 1);
        says("Promise 36: STATE: none was kept, behind BAD");
        edges("restore(v) of none", BoundariesTest::six, (x, v) -> x.restore(v), 0, 1, STATE, STATE);
        edges("restore(v) of 0 alone", () -> {
            SpringIsle x = six();
            x.image(0);
            return x;
        }, (x, v) -> x.restore(v), 0, 1, 1, STATE);
        says("Promise 36: The ISLE is as an IMAGE kept it (no ACT can be undone then)");
        SpringIsle x = sixSent();
        x.hours(2);
        x.image(0);
        due("ACTS stay behind image()", x.count(6), 8);
        x.send(0, 0);
        x.hours(5);
        x.wind(3);
        x.image(1);
        due("restore(0)", x.restore(0), 1);
        due("ACTS", x.count(6), 0);
        due("undo()", x.undo(), STATE);
        due("HOUR", x.count(3), 2);
        due("SENT", x.count(4), 63);
        due("OWNER", x.stand(2), 0);
        due("HELD", x.boat(0, 4), 2);
        due("WIND", x.stand(3), 0);
        due("restore(1)", x.restore(1), 1);
        due("HOUR of 1", x.count(3), 7);
        due("SENT of 1", x.count(4), 62);
        due("OWNER of 1", x.stand(2), 1);
        due("WIND of 1", x.stand(3), 3);
        says("An IMAGE is not touched by what is done behind it, and can be restored again");
        x.hours(24);
        due("restore(1) again", x.restore(1), 1);
        due("HOUR of 1", x.count(3), 7);
        says("An IMAGE that is kept anew stands in place of the one before");
        x.hours(1);
        x.image(0);
        x.hours(1);
        x.restore(0);
        due("HOUR of 0", x.count(3), 8);
        says("An IMAGE of another ISLE");
        tell(x, ONE);
        due("restore(0)", x.restore(0), 1);
        due("BOATS", x.count(2), 6);
        due("CELLS", x.count(1), 6);
    }

    // ---- asked

    private static void kindNumbers() {
        says("Promise 37: The KIND of a BOAT (1 to 5); BAD");
        Supplier<SpringIsle> five = () -> told("i2,1,0;h5;s1,1;c1,1;o1,1;f1,1;r1,1;");
        edges("kind(v)", five, (x, v) -> x.kind(v), 0, 4, 1, 5);
        edges("kind(v) of six", BoundariesTest::six, (x, v) -> x.kind(v), 0, 5, 3, 3);
        says("Promise 38: A BOAT is taken as one: its number; BAD: BOAT");
        edges("as(v, 0)", BoundariesTest::six, (x, v) -> x.as(v, 0), 0, 5, 0, 5);
        edges("as(v, 0) of one", () -> told(ONE), (x, v) -> x.as(v, 0), 0, 0, 0, 0);
        says("Promise 38: a KIND (0 .. 5); BAD: KIND; KIND: it is no such one");
        edges("as(4, v)", five, (x, v) -> x.as(4, v), 0, 5, 4, 4);
        edges("as(0, v)", five, (x, v) -> x.as(0, v), 0, 5, 0, KIND);
        says("KINDS of BOATS: by this it is asked");
        int[] is = {0b000011, 0b000111, 0b001011, 0b010001, 0b110001};
        for (int b = 0; b < 5; b++) {
            for (int kind = 0; kind < 6; kind++) {
                due("as(" + b + ", " + kind + ")", five.get().as(b, kind), (is[b] >> kind & 1) == 1 ? b : KIND);
            }
        }
        says("Promise 38: BAD ahead of KIND");
        due("as(5, 5)", five.get().as(5, 5), BAD);
        due("as(0, 6)", five.get().as(0, 6), BAD);
    }

    private static void askNumbers() {
        says("Promise 39: An ASK (0, 1) of a BOAT; BAD");
        edges("ask(0, v)", () -> told("i2,1,0;h5;f1,9;"), (x, v) -> x.ask(0, v), 0, 1, -91, 91);
        edges("ask(v, 0)", () -> told("i2,1,0;h5;f1,9;f1,8;f1,7;f1,6;f1,5;f1,4;"), (x, v) -> x.ask(v, 0), 0, 5, -91, -96);
        edges("ask(v, 0) of one", () -> told("i2,1,0;h5;f1,9;"), (x, v) -> x.ask(v, 0), 0, 0, -91, -91);
        says("ASKS by the greatest, the least numbers");
        // SIZE of a cutter: 0 less (SPEED, and twice (its number, and OFF)); MARK of one with oars.
        SpringIsle x = told("i2,1,0;h5;c60,9;c0,1;o60,9;o0,1;r60,9;r0,1;");
        due("SIZE of 0", x.ask(0, 0), -129);
        due("SIZE of 1", x.ask(1, 0), -3);
        due("SIZE of 2", x.ask(2, 0), -929);
        due("SIZE of 3", x.ask(3, 0), -996);
        due("SIZE of 4", x.ask(4, 0), -182);
        due("SIZE of 5", x.ask(5, 0), -198);
        due("MARK of 0", x.ask(0, 1), 120);
        due("MARK of 1", x.ask(1, 1), 2);
        due("MARK of 2", x.ask(2, 1), -938);
        due("MARK of 3", x.ask(3, 1), -997);
        due("MARK of 4", x.ask(4, 1), 186);
        due("MARK of 5", x.ask(5, 1), 203);
        x = told("i2,1,0;h5;s60,9;s0,1;f60,9;f0,1;");
        due("SIZE of a sail", x.ask(0, 0), 69);
        due("SIZE of the second", x.ask(1, 0), 2);
        due("MARK of a sail", x.ask(0, 1), 60);
        due("MARK of the second", x.ask(1, 1), 1);
        due("SIZE of a ferry", x.ask(2, 0), -91);
        due("SIZE of the second", x.ask(3, 0), -99);
        due("MARK of a ferry", x.ask(2, 1), 93);
        due("MARK of the second", x.ask(3, 1), 102);
    }

    private static void traceEdges() {
        says("Promise 40: Number i of THE TRACE; NONE");
        SpringIsle x = told("i2,1,0;h5;c1,1;f1,1;");
        for (int i : new int[] {LEAST, -1, 0, 1, 15, 16, MOST}) due("trace(" + i + ") of none", x.trace(i), NONE);
        x.ask(0, 0);
        int[] longest = {12, 11, 10, 24, 21, 20};
        for (int i = 0; i < 6; i++) due("trace(" + i + ")", x.trace(i), longest[i]);
        for (int i : new int[] {LEAST, -1, 6, 7, 15, 16, MOST}) due("trace(" + i + ") beyond", x.trace(i), NONE);
        says("Promise 39: THE TRACE is empty ahead of it");
        x.ask(1, 0);
        due("trace(0)", x.trace(0), 13);
        due("trace(1)", x.trace(1), 10);
        for (int i = 2; i < 6; i++) due("trace(" + i + ") of the one before", x.trace(i), NONE);
        says("what is refused changes nothing: THE TRACE stays");
        due("ask(2, 0)", x.ask(2, 0), BAD);
        due("ask(0, 2)", x.ask(0, 2), BAD);
        due("trace(0)", x.trace(0), 13);
        due("trace(1)", x.trace(1), 10);
        due("trace(2)", x.trace(2), NONE);
    }

    private static void countNumbers() {
        says("Promise 41: 0 ROWS .. 7 bytes on the tape; BAD");
        edges("count(v)", () -> {
            SpringIsle x = fullRows();
            for (int k = 0; k < 120; k++) x.feed(0);
            return x;
        }, (x, v) -> x.count(v), 0, 7, 8, 120);
        says("Promise 41: each of them at its most");
        SpringIsle x = sixSent();
        for (int k = 0; k < 41; k++) x.hours(24);
        x.hours(15);
        due("CELLS", x.count(1), 6);
        due("BOATS", x.count(2), 6);
        due("HOUR", x.count(3), 999);
        due("SENT", x.count(4), 63);
        due("HELD of all", x.count(5), 999);
        due("ACTS", x.count(6), 24);
    }

    private static void statusEdges() {
        says("Promise 42: 0: there was none");
        due("status()", none().status(), 0);
        says("Promise 42: of the latest call with a ROW, or as(), that was not BAD, STATE, FULL");
        SpringIsle x = none();
        x.row(0, 0, -1);
        x.row(8, 0, 1);
        x.set(8, 0, 1);
        x.copy(8, 0, 0, 0, 0);
        x.drop(8);
        x.barred(0, 0, 1);
        x.who(0, 0, 0, 0, 1);
        x.as(0, 0);
        due("BAD, STATE", x.status(), 4);
        for (int k = 0; k < 121; k++) x.feed(0);
        x.isle();
        x.hours(1);
        due("FULL, and calls without a ROW", x.status(), 4);
        due("status() itself", x.status(), 4);
        says("Promise 42: 0: it had none");
        x.row(0, 0, 1);
        due("row", x.status(), 0);
        x.drop(1);
        due("NULL of drop", x.status(), 1);
        x.set(0, 0, 1);
        due("set", x.status(), 0);
        x.set(0, 1, 1);
        due("PLACE of set", x.status(), 2);
        x.copy(0, 0, 0, 0, 0);
        due("copy", x.status(), 0);
        x.copy(0, 0, 0, 0, 2);
        due("PLACE of copy", x.status(), 2);
        x.drop(0);
        due("drop", x.status(), 0);
        tell(x, ONE);
        x.as(0, 5);
        due("KIND of as", x.status(), 3);
        x.as(0, 3);
        due("as", x.status(), 0);
        x.who(0, 0, 0, 0, 1);
        due("NULL of who", x.status(), 1);
        x.row(0, 0, 1);
        x.barred(0, 1, 1);
        due("PLACE of barred", x.status(), 2);
        x.who(0, 0, 0, 0, 1);
        due("who", x.status(), 0);
        x.barred(1, 0, 1);
        due("NULL of barred", x.status(), 1);
        x.barred(0, 0, 1);
        due("barred", x.status(), 0);
    }
}
