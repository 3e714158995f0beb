/** Each promise of the document by answers that were worked out by hand: plain inputs, edges, wrong inputs. */
public final class PromisesTest {
    private static final int NONE = -1000000, BAD = -1000001, STATE = -1000002, FULL = -1000003;
    private static final int NULL = -1000011, PLACE = -1000012, KIND = -1000013, SIZE = -1000014, STORE = -1000015;
    private static final int LEAST = Integer.MIN_VALUE, MOST = Integer.MAX_VALUE;

    // WATER 9 6 4 2 0 2 4 6; it SHOWS in the hours 2 to 6; boat 5 is always THERE.
    private static final String WIDE = "i8,9,2;h3;h5;h0;s6,3;c6,3;o4,5;f9,4;r5,6;s0,1;";
    // WATER 8 4 0 4; it SHOWS in the hour 2 alone.
    private static final String SMALL = "i4,8,0;h3;o3,4;s5,2;f4,3;";
    // It SHOWS always.
    private static final String ALWAYS = "i2,1,0;h5;o1,1;o1,1;o1,1;";
    // It SHOWS never.
    private static final String NEVER = "i2,30,1;h0;s1,9;";

    private static int wrong = 0;
    private static String part = "";

    private static void due(String call, long got, long want) {
        if (got == want) return;
        wrong++;
        System.out.println(part + ": " + call + " answered " + got + ", due is " + want);
    }

    private static int tell(SpringIsle x, String text) {
        for (int i = 0; i < text.length(); i++) x.feed(text.charAt(i));
        return x.isle();
    }

    private static SpringIsle told(String text) {
        SpringIsle x = new SpringIsle();
        tell(x, text);
        return x;
    }

    private static void items(SpringIsle x, int row, int lane, int... values) {
        x.row(row, lane, values.length);
        for (int i = 0; i < values.length; i++) x.set(row, i, values[i]);
    }

    public static void main(String[] args) {
        newObject();
        rows();
        setting();
        copying();
        dropping();
        feeding();
        reading();
        faults();
        undoing();
        hoursPass();
        sending();
        windAndSandAndSpeed();
        boatsAndCells();
        ways();
        standing();
        foretold();
        ownersAhead();
        showing();
        sailing();
        keeping();
        sandNeeded();
        fitting();
        barring();
        richest();
        wrecks();
        draws();
        images();
        kinds();
        asks();
        counts();
        statuses();
        System.out.println(wrong == 0 ? "all promises hold" : wrong + " answers are not as due");
        if (wrong != 0) System.exit(1);
    }

    private static void newObject() {
        part = "promise 1";
        SpringIsle x = new SpringIsle();
        for (int what = 0; what <= 7; what++) due("count(" + what + ")", x.count(what), 0);
        due("stand(0)", x.stand(0), STATE);
        due("boat(0, 0)", x.boat(0, 0), BAD);
        due("cell(0, 0)", x.cell(0, 0), BAD);
        due("fault()", x.fault(), 0);
        due("status()", x.status(), 0);
        due("trace(0)", x.trace(0), NONE);
    }

    private static void rows() {
        part = "promise 2";
        SpringIsle x = new SpringIsle();
        due("row(0, 0, 0)", x.row(0, 0, 0), 0);
        due("row(7, 2, 40)", x.row(7, 2, 40), 40);
        due("count(0)", x.count(0), 2);
        due("row(-1, 0, 1)", x.row(-1, 0, 1), BAD);
        due("row(8, 0, 1)", x.row(8, 0, 1), BAD);
        due("row(0, -1, 1)", x.row(0, -1, 1), BAD);
        due("row(0, 3, -1)", x.row(0, 3, -1), BAD);
        due("row(0, 0, 41)", x.row(0, 0, 41), BAD);
        due("row(0, 0, MOST)", x.row(0, 0, MOST), BAD);
        due("row(1, 1, -1)", x.row(1, 1, -1), SIZE);
        due("row(1, 1, LEAST)", x.row(1, 1, LEAST), SIZE);
        due("count(0)", x.count(0), 2);
        due("set(7, 39, 5)", x.set(7, 39, 5), 5);
        due("row(7, 0, -2)", x.row(7, 0, -2), SIZE);
        due("drop(7) behind a refusal", x.drop(7), 40);
        items(x, 2, 2, 2, 2);
        due("row(2, 2, 2)", x.row(2, 2, 2), 2);
        tell(x, ALWAYS);
        due("items are 0 again", x.send(0, 1), 1);
        due("who by 0, 0", x.who(0, 2, 2, 0, 2), 15);
    }

    private static void setting() {
        part = "promise 3";
        SpringIsle x = new SpringIsle();
        due("set(0, 0, 1)", x.set(0, 0, 1), NULL);
        due("set(8, 0, 1)", x.set(8, 0, 1), BAD);
        due("set(-1, 0, 1)", x.set(-1, 0, 1), BAD);
        x.row(0, 0, 2);
        x.row(1, 1, 2);
        x.row(2, 2, 2);
        due("byte 127", x.set(0, 1, 127), 127);
        due("byte 128", x.set(0, 1, 128), -128);
        due("byte 511", x.set(0, 1, 511), -1);
        due("byte 256", x.set(0, 1, 256), 0);
        due("short 32767", x.set(1, 0, 32767), 32767);
        due("short 32768", x.set(1, 0, 32768), -32768);
        due("short -65537", x.set(1, 0, -65537), -1);
        due("int LEAST", x.set(2, 0, LEAST), LEAST);
        due("int MOST", x.set(2, 0, MOST), MOST);
        due("set(0, 2, 1)", x.set(0, 2, 1), PLACE);
        due("set(0, -1, 1)", x.set(0, -1, 1), PLACE);
        due("set(0, MOST, 1)", x.set(0, MOST, 1), PLACE);
        due("set(0, LEAST, 1)", x.set(0, LEAST, 1), PLACE);
        x.row(3, 0, 0);
        due("set(3, 0, 1)", x.set(3, 0, 1), PLACE);
    }

    private static void copying() {
        part = "promise 4";
        SpringIsle x = told(ALWAYS);
        items(x, 0, 0, 0, 1, 2, -1);
        items(x, 1, 0, 9, 9, 9);
        items(x, 2, 1, 9, 9, 9);
        due("copy(8, ..)", x.copy(8, 0, 0, 0, 0), BAD);
        due("copy(.., -1, ..)", x.copy(0, 0, -1, 0, 0), BAD);
        due("copy(0, 0, 3, 0, -1)", x.copy(0, 0, 3, 0, -1), NULL);
        due("copy(3, 0, 0, 0, 0)", x.copy(3, 0, 0, 0, 0), NULL);
        due("copy(0, 0, 2, 0, 1)", x.copy(0, 0, 2, 0, 1), STORE);
        due("copy(0, -1, 2, 0, 99)", x.copy(0, -1, 2, 0, 99), STORE);
        due("copy(0, 0, 1, 0, 4)", x.copy(0, 0, 1, 0, 4), PLACE);
        due("copy(0, 2, 1, 0, 3)", x.copy(0, 2, 1, 0, 3), PLACE);
        due("copy(0, 0, 1, 1, 3)", x.copy(0, 0, 1, 1, 3), PLACE);
        due("copy(0, -1, 1, 0, 1)", x.copy(0, -1, 1, 0, 1), PLACE);
        due("copy(0, 0, 1, -1, 1)", x.copy(0, 0, 1, -1, 1), PLACE);
        due("copy(0, 0, 1, 0, -1)", x.copy(0, 0, 1, 0, -1), PLACE);
        due("copy(0, MOST, 1, 0, MOST)", x.copy(0, MOST, 1, 0, MOST), PLACE);
        due("copy(0, 1, 1, 0, MOST)", x.copy(0, 1, 1, 0, MOST), PLACE);
        due("copy(0, 4, 1, 3, 0)", x.copy(0, 4, 1, 3, 0), 0);
        due("copy(0, 5, 1, 0, 0)", x.copy(0, 5, 1, 0, 0), PLACE);
        // Row 0 becomes 0 0 1 2 if it is copied as it was ahead, 0 0 0 0 if one by one.
        due("copy(0, 0, 0, 1, 3)", x.copy(0, 0, 0, 1, 3), 3);
        x.send(0, 1);
        due("0 0 as it is", x.barred(0, 0, 2) & 64, 64);
        due("0 0 1 is not", x.barred(0, 0, 3) & 64, 0);
        due("copy(1, 0, 0, 0, 0)", x.copy(1, 0, 0, 0, 0), 0);
        items(x, 3, 0, 0, 0, 0);
        due("copy(3, 0, 0, 1, 2)", x.copy(3, 0, 0, 1, 2), 2);
        due("0 0 0 as it is", x.barred(0, 0, 3) & 64, 64);
        due("0 0 0 2 is not", x.barred(0, 0, 4) & 64, 0);
    }

    private static void dropping() {
        part = "promise 5";
        SpringIsle x = new SpringIsle();
        x.row(4, 1, 17);
        due("drop(4)", x.drop(4), 17);
        due("count(0)", x.count(0), 0);
        due("drop(4) again", x.drop(4), NULL);
        due("set(4, 0, 0)", x.set(4, 0, 0), NULL);
        due("drop(8)", x.drop(8), BAD);
        due("drop(-1)", x.drop(-1), BAD);
        x.row(4, 0, 0);
        due("drop(4) of none", x.drop(4), 0);
    }

    private static void feeding() {
        part = "promise 6";
        SpringIsle x = new SpringIsle();
        due("feed(-1)", x.feed(-1), BAD);
        due("feed(256)", x.feed(256), BAD);
        due("feed(0)", x.feed(0), 1);
        for (int k = 2; k <= 120; k++) due("feed(255)", x.feed(255), k);
        due("feed(0) of 121", x.feed(0), FULL);
        due("feed(256) of 121", x.feed(256), BAD);
        due("count(7)", x.count(7), 120);
        due("isle()", x.isle(), -1000100);
        due("count(7) behind isle()", x.count(7), 0);
        due("feed(0) anew", x.feed(0), 1);
    }

    private static void reading() {
        part = "promise 7";
        SpringIsle x = new SpringIsle();
        due("isle() of WIDE", tell(x, WIDE), 6);
        due("count(1)", x.count(1), 3);
        due("count(7)", x.count(7), 0);
        x.send(0, 1);
        x.hours(4);
        due("isle() of nothing", x.isle(), -1000100);
        due("HOUR stays", x.count(3), 4);
        due("ACTS stay", x.count(6), 5);
        due("isle() of a part", tell(x, "i2,1,0;h9;s9,9"), -1000114);
        due("cells stay", x.count(1), 3);
        due("boats stay", x.count(2), 6);
        due("OWNER stays", x.stand(2), 0);
        due("WIND stays", x.stand(3), 2);
        due("isle() of SMALL", tell(x, SMALL), 3);
        due("HOUR", x.count(3), 0);
        due("SENT", x.count(4), 0);
        due("HELD", x.count(5), 0);
        due("ACTS", x.count(6), 0);
        due("OWNER", x.stand(2), NONE);
        due("leading 0", tell(x, "i02,01,00;h00;s00,09;"), 1);
        due("SPEED", x.boat(0, 1), 9);
        due("the most", tell(x, "i24,30,3;h30;h30;h30;h30;h30;h30;s60,9;c60,9;o60,9;f60,9;r60,9;s60,9;"), 6);
    }

    private static void fault(String text, int place, int number) {
        SpringIsle x = new SpringIsle();
        due("isle() of " + text, tell(x, text), -1000100 - place);
        due("fault() of " + text, x.fault(), number);
        due("count(2) behind " + text, x.count(2), 0);
    }

    private static void faults() {
        part = "promise 8";
        fault("", 0, 1);
        fault("h", 0, 1);
        fault("I2,1,0;", 0, 1);
        fault(" i2,1,0;", 0, 1);
        fault("i,1,0;", 1, 1);
        fault("i024,1,0;", 1, 1);
        fault("i1,1,0;", 1, 2);
        fault("i25,1,0;", 1, 2);
        fault("i24;1,0;", 3, 1);
        fault("i24 ,1,0;", 3, 1);
        fault("i2,0,0;", 3, 2);
        fault("i2,31,0;", 3, 2);
        fault("i2,100,0;", 3, 1);
        fault("i2,1,4;", 5, 2);
        fault("i2,1,0,", 6, 1);
        fault("i2,1,0;s1,1;", 7, 1);
        fault("i2,1,0;hh", 8, 1);
        fault("i2,1,0;h31;", 8, 2);
        fault("i2,1,0;h999;", 8, 1);
        fault("i2,1,0;h3", 9, 1);
        fault("i2,1,0;h3;", 10, 1);
        fault("i2,1,0;h3;x1,1;", 10, 1);
        fault("i2,1,0;h3;1", 10, 1);
        fault("i2,1,0;h3;s61,1;", 11, 2);
        fault("i2,1,0;h3;s60;1;", 13, 1);
        fault("i2,1,0;h3;s6,0;", 13, 2);
        fault("i2,1,0;h3;s6,10;", 13, 2);
        fault("i2,1,0;h3;s6,1;h3;", 15, 1);
        fault("i2,1,0;h3;s6,1;i", 15, 1);
        fault("i2,1,0;h3;s6,1;;", 15, 1);
        fault("i2,1,0;h1;h1;h1;h1;h1;h1;h", 25, 3);
        fault("i2,1,0;h1;h1;h1;h1;h1;h1;s1,1;h", 30, 1);
        fault("i2,1,0;h1;s1,1;c1,1;o1,1;f1,1;r1,1;s1,1;r", 40, 3);
        fault("i2,1,0;h1;s1,1;c1,1;o1,1;f1,1;r1,1;s1,1;h", 40, 1);
        SpringIsle x = new SpringIsle();
        tell(x, "i1");
        tell(x, SMALL);
        due("fault() stays behind an ISLE", x.fault(), 2);
        due("isle() of i", tell(x, "i"), -1000101);
        due("fault() is the latest", x.fault(), 1);
    }

    private static void undoing() {
        part = "promise 9";
        SpringIsle x = new SpringIsle();
        due("undo() without an ISLE", x.undo(), STATE);
        tell(x, WIDE);
        due("undo() of none", x.undo(), STATE);
        x.send(2, 1);
        x.wind(0);
        x.sand(1, -5);
        x.speed(3, 9);
        x.hours(5);
        due("count(6)", x.count(6), 9);
        due("OWNER of hour 5", x.stand(2), 2);
        due("HELD of boat 2", x.boat(2, 4), 2);
        due("undo() of an HOUR", x.undo(), 8);
        due("HOUR", x.count(3), 4);
        due("HELD of boat 2", x.boat(2, 4), 1);
        for (int k = 7; k >= 4; k--) due("undo() of an HOUR", x.undo(), k);
        due("boat 2 is OFF", x.boat(2, 0), 4);
        due("OWNER", x.stand(2), NONE);
        due("undo() of SPEED", x.undo(), 3);
        due("SPEED", x.boat(3, 1), 4);
        due("undo() of HEIGHT", x.undo(), 2);
        due("HEIGHT", x.cell(1, 0), 5);
        due("undo() of WIND", x.undo(), 1);
        due("WIND", x.stand(3), 2);
        due("undo() of SENT", x.undo(), 0);
        due("SENT", x.count(4), 0);
        due("undo() of none", x.undo(), STATE);
        x.send(2, 1);
        x.hours(23);
        due("24 ACTS", x.count(6), 24);
        x.hours(2);
        due("24 ACTS yet", x.count(6), 24);
        for (int k = 23; k >= 0; k--) due("undo()", x.undo(), k);
        due("the oldest is forgotten", x.undo(), STATE);
        due("HOUR", x.count(3), 1);
        due("SENT stays", x.count(4), 4);
        x.hours(2);
        due("isle() has no ACT", tell(x, SMALL), 3);
        due("undo() behind isle()", x.undo(), STATE);
        x.wind(0);
        due("wind() that is so is an ACT", x.count(6), 1);
        x.speed(0, 4);
        due("speed() that is so is an ACT", x.count(6), 2);
        x.send(0, 0);
        x.sand(0, 0);
        x.hours(0);
        due("what is refused is none", x.count(6), 2);
    }

    private static void hoursPass() {
        part = "promise 10";
        SpringIsle x = new SpringIsle();
        due("hours(0) without an ISLE", x.hours(0), STATE);
        tell(x, WIDE);
        due("hours(0)", x.hours(0), BAD);
        due("hours(25)", x.hours(25), BAD);
        due("hours(-1)", x.hours(-1), BAD);
        due("hours(2)", x.hours(2), NONE);
        due("hours(1)", x.hours(1), 5);
        due("hours(4)", x.hours(4), 5);
        due("hours(1) under water", x.hours(1), NONE);
        due("HELD", x.boat(5, 4), 5);
        // One that is THERE first keeps it, a lower number comes too late.
        x = told("i2,1,2;h5;o5,1;s3,3;o3,1;");
        x.send(0, 1);
        x.send(1, 1);
        due("boat 1 is first", x.hours(1), 1);
        due("boat 1 stays", x.hours(3), 1);
        due("boat 0 is THERE", x.stand(5), 3);
        x.send(1, 0);
        due("boat 0 has it then", x.hours(1), 0);
        due("boat 1 goes back", x.boat(1, 0), 1);
        x.hours(2);
        due("boat 1 is back", x.boat(1, 0), 3);
        x.hours(1);
        due("boat 1 stays home", x.boat(1, 0), 3);
        due("HELD of all", x.count(5), 8);
        x = told(SMALL);
        for (int k = 0; k < 41; k++) x.hours(24);
        due("HOUR", x.count(3), 984);
        due("hours(16)", x.hours(16), FULL);
        due("HOUR stays", x.count(3), 984);
        due("hours(15)", x.hours(15), NONE);
        due("hours(1) of 999", x.hours(1), FULL);
        due("hours(0) of 999", x.hours(0), BAD);
        due("owner(60) goes on", x.owner(60), NONE);
        due("shows() goes on", x.shows(), 3);
    }

    private static void sending() {
        part = "promise 11";
        SpringIsle x = new SpringIsle();
        due("send(0, 1) without an ISLE", x.send(0, 1), BAD);
        tell(x, SMALL);
        due("send(0, 0)", x.send(0, 0), STATE);
        due("send(2, 1)", x.send(2, 1), 4);
        due("send(0, 1)", x.send(0, 1), 5);
        due("send(0, 1) again", x.send(0, 1), STATE);
        due("send(2, 0)", x.send(2, 0), 1);
        due("send(3, 1)", x.send(3, 1), BAD);
        due("send(-1, 1)", x.send(-1, 1), BAD);
        due("send(0, 2)", x.send(0, 2), BAD);
        due("send(0, -1)", x.send(0, -1), BAD);
    }

    private static void windAndSandAndSpeed() {
        part = "promise 12";
        SpringIsle x = new SpringIsle();
        due("wind(9) without an ISLE", x.wind(9), STATE);
        tell(x, WIDE);
        due("wind(3)", x.wind(3), 2);
        due("wind(0)", x.wind(0), 3);
        due("wind(4)", x.wind(4), BAD);
        due("wind(-1)", x.wind(-1), BAD);
        due("stand(3)", x.stand(3), 0);
        part = "promise 13";
        due("sand(0, 20)", x.sand(0, 20), 23);
        due("sand(0, 18)", x.sand(0, 18), FULL);
        due("sand(0, 17)", x.sand(0, 17), 40);
        due("sand(0, -20)", x.sand(0, -20), 20);
        due("sand(0, -20)", x.sand(0, -20), 0);
        due("sand(0, -1)", x.sand(0, -1), FULL);
        due("sand(0, 0)", x.sand(0, 0), BAD);
        due("sand(0, 21)", x.sand(0, 21), BAD);
        due("sand(0, -21)", x.sand(0, -21), BAD);
        due("sand(3, 1)", x.sand(3, 1), BAD);
        due("sand(-1, 1)", x.sand(-1, 1), BAD);
        due("sand(0, LEAST)", x.sand(0, LEAST), BAD);
        due("cell(0, 0)", x.cell(0, 0), 0);
        part = "promise 14";
        due("speed(0, 9)", x.speed(0, 9), 3);
        due("speed(0, 1)", x.speed(0, 1), 9);
        due("speed(0, 0)", x.speed(0, 0), BAD);
        due("speed(0, 10)", x.speed(0, 10), BAD);
        due("speed(6, 1)", x.speed(6, 1), BAD);
        due("speed(-1, 1)", x.speed(-1, 1), BAD);
        due("boat(0, 1)", x.boat(0, 1), 1);
        due("speed(0, 1) without an ISLE", new SpringIsle().speed(0, 1), BAD);
        due("sand(0, 1) without an ISLE", new SpringIsle().sand(0, 1), BAD);
    }

    private static void boatsAndCells() {
        part = "promise 15";
        SpringIsle x = told(WIDE);
        due("OFF", x.boat(3, 0), 9);
        due("SPEED", x.boat(3, 1), 4);
        due("SENT", x.boat(3, 2), 0);
        due("WAY", x.boat(3, 3), 0);
        due("HELD", x.boat(3, 4), 0);
        x.send(3, 1);
        x.hours(4);
        due("OFF then", x.boat(3, 0), 1);
        due("SENT then", x.boat(3, 2), 1);
        due("WAY then", x.boat(3, 3), 4);
        due("HELD of boat 5", x.boat(5, 4), 2);
        due("OFF as told", x.boat(3, 5), 9);
        due("boat(3, 6)", x.boat(3, 6), BAD);
        due("boat(3, -1)", x.boat(3, -1), BAD);
        due("boat(6, 0)", x.boat(6, 0), BAD);
        due("boat(-1, 0)", x.boat(-1, 0), BAD);
        part = "promise 16";
        due("cell(0, 0)", x.cell(0, 0), 3);
        due("cell(0, 1)", x.cell(0, 1), 1);
        due("cell(1, 1)", x.cell(1, 1), 1);
        due("cell(2, 1) by WATER 0", x.cell(2, 1), 0);
        x.hours(2);
        due("cell(0, 1) by WATER 4", x.cell(0, 1), 0);
        due("cell(1, 1) by WATER 4", x.cell(1, 1), 1);
        due("cell(0, 2)", x.cell(0, 2), BAD);
        due("cell(0, -1)", x.cell(0, -1), BAD);
        due("cell(3, 0)", x.cell(3, 0), BAD);
        due("cell(-1, 0)", x.cell(-1, 0), BAD);
    }

    private static void ways() {
        part = "WAY";
        SpringIsle x = told("i2,1,0;h5;s9,5;c9,5;o9,5;f9,2;r9,2;");
        int[][] byWind = {{0, 0, 4, 2, 2}, {2, 3, 2, 2, 1}, {5, 6, 2, 2, 0}, {7, 8, 2, 2, 0}};
        for (int wind = 0; wind <= 3; wind++) {
            x.wind(wind);
            for (int b = 0; b < 5; b++) due("WAY of " + b + " by " + wind, x.boat(b, 3), byWind[wind][b]);
        }
        x.wind(0);
        x.sand(0, -5);
        due("ferry, under water", x.boat(3, 3), 0);
        due("raft, under water", x.boat(4, 3), 0);
    }

    private static void standing() {
        part = "promise 17";
        SpringIsle x = new SpringIsle();
        due("stand(9) without an ISLE", x.stand(9), STATE);
        tell(x, WIDE);
        int[] water = {9, 6, 4, 2, 0, 2, 4, 6, 9};
        int[] showing = {0, 0, 1, 1, 1, 1, 1, 0, 0};
        for (int hour = 0; hour < 9; hour++) {
            due("WATER of " + hour, x.stand(0), water[hour]);
            due("SHOWS of " + hour, x.stand(1), showing[hour]);
            x.hours(1);
        }
        due("stand(6)", x.stand(6), BAD);
        due("stand(-1)", x.stand(-1), BAD);
        x = told("i5,7,3;h4;s2,2;r0,1;");
        // 7 times 5, 3, 1, 1, 3 by 5.
        int[] odd = {7, 4, 1, 1, 4, 7};
        for (int hour = 0; hour < 6; hour++) {
            due("WATER of " + hour + " by 5", x.stand(0), odd[hour]);
            x.hours(1);
        }
        due("OWNER", x.stand(2), NONE);
        due("WIND", x.stand(3), 3);
        x.send(0, 1);
        due("SENT", x.stand(4), 1);
        due("THERE", x.stand(5), 2);
        x.hours(2);
        due("THERE", x.stand(5), 3);
        due("OWNER", x.stand(2), 0);
    }

    private static void foretold() {
        part = "promise 18";
        SpringIsle x = told(SMALL);
        x.send(0, 1);
        x.send(2, 1);
        due("ahead(0, 0)", x.ahead(0, 0), 3);
        due("ahead(0, 1)", x.ahead(0, 1), 0);
        due("ahead(2, 2)", x.ahead(2, 2), 4);
        due("ahead(2, 3)", x.ahead(2, 3), 1);
        due("ahead(2, 60)", x.ahead(2, 60), 0);
        due("ahead(2, 61)", x.ahead(2, 61), BAD);
        due("ahead(2, -1)", x.ahead(2, -1), BAD);
        due("ahead(3, 1)", x.ahead(3, 1), BAD);
        due("ahead(-1, 1)", x.ahead(-1, 1), BAD);
        due("nothing changes", x.count(3), 0);
        due("boat(0, 0)", x.boat(0, 0), 3);
        part = "promise 19";
        due("owner(0)", x.owner(0), NONE);
        due("owner(2)", x.owner(2), NONE);
        due("owner(3)", x.owner(3), 0);
        due("owner(4)", x.owner(4), NONE);
        due("owner(59)", x.owner(59), 0);
        due("owner(60)", x.owner(60), NONE);
        due("owner(61)", x.owner(61), BAD);
        due("owner(-1)", x.owner(-1), BAD);
        due("owner(61) without an ISLE", new SpringIsle().owner(61), STATE);
        part = "promise 20";
        due("held(0, 0)", x.held(0, 0), 0);
        due("held(0, 3)", x.held(0, 3), 1);
        due("held(0, 60)", x.held(0, 60), 15);
        due("held(1, 60)", x.held(1, 60), 0);
        x.hours(3);
        due("held(0, 0) then", x.held(0, 0), 1);
        due("held(0, 4) then", x.held(0, 4), 2);
        due("owner(0) then", x.owner(0), 0);
        due("held(0, 61)", x.held(0, 61), BAD);
        due("held(0, -1)", x.held(0, -1), BAD);
        due("held(3, 0)", x.held(3, 0), BAD);
        due("held(-1, 0)", x.held(-1, 0), BAD);
    }

    private static void showing() {
        part = "promise 21";
        SpringIsle x = new SpringIsle();
        due("shows() without an ISLE", x.shows(), STATE);
        tell(x, SMALL);
        due("shows()", x.shows(), 2);
        x.hours(2);
        due("shows() in this one", x.shows(), 0);
        x.hours(1);
        due("shows() of the next tide", x.shows(), 3);
        due("shows() of NEVER", told(NEVER).shows(), NONE);
        part = "promise 22";
        due("dry(61) without an ISLE", new SpringIsle().dry(61), STATE);
        x = told(WIDE);
        due("dry(2)", x.dry(2), 0);
        due("dry(3)", x.dry(3), 2);
        due("dry(4)", x.dry(4), 3);
        due("dry(60)", x.dry(60), 3);
        due("dry(0)", x.dry(0), BAD);
        due("dry(61)", x.dry(61), BAD);
        part = "promise 23";
        due("open(61) without an ISLE", new SpringIsle().open(61), STATE);
        due("open(2)", x.open(2), 0);
        due("open(3)", x.open(3), 1);
        due("open(8)", x.open(8), 5);
        due("open(60)", x.open(60), 37);
        due("open(0)", x.open(0), BAD);
        due("open(61)", x.open(61), BAD);
    }

    private static void ownersAhead() {
        part = "promise 24";
        due("first(61) without an ISLE", new SpringIsle().first(61), STATE);
        SpringIsle x = told(SMALL);
        due("first(60), nobody sails", x.first(60), NONE);
        x.send(2, 1);
        due("first(6)", x.first(6), NONE);
        due("first(7)", x.first(7), 2);
        x.send(0, 1);
        due("first(2)", x.first(2), NONE);
        due("first(60)", x.first(60), 0);
        x.hours(3);
        due("first(1), now OWNER", x.first(1), 0);
        due("first(0)", x.first(0), BAD);
        due("first(61)", x.first(61), BAD);
    }

    private static void sailing() {
        part = "promise 25";
        SpringIsle x = told(SMALL);
        due("latest(0, 2)", x.latest(0, 2), NONE);
        due("latest(0, 3)", x.latest(0, 3), 2);
        due("latest(0, 4)", x.latest(0, 4), NONE);
        due("latest(0, 7)", x.latest(0, 7), 6);
        due("latest(2, 7)", x.latest(2, 7), 2);
        due("latest(1, 3)", x.latest(1, 3), NONE);
        due("latest(0, 39)", x.latest(0, 39), 38);
        due("latest(0, 0)", x.latest(0, 0), BAD);
        due("latest(0, 41)", x.latest(0, 41), BAD);
        due("latest(3, 1)", x.latest(3, 1), BAD);
        due("latest(-1, 1)", x.latest(-1, 1), BAD);
        x.send(0, 1);
        due("latest(0, 3), SENT", x.latest(0, 3), STATE);
        due("latest(0, 41), SENT", x.latest(0, 41), BAD);
        due("latest(2, 7), boat 0 is first", x.latest(2, 7), NONE);
        part = "promise 26";
        x = told(SMALL);
        x.send(1, 1);
        due("winds(1, 3)", x.winds(1, 3), 12);
        due("winds(1, 7)", x.winds(1, 7), 14);
        due("winds(1, 4)", x.winds(1, 4), 0);
        due("winds(1, 0)", x.winds(1, 0), BAD);
        due("winds(1, 61)", x.winds(1, 61), BAD);
        due("winds(3, 1)", x.winds(3, 1), BAD);
        due("winds(-1, 1)", x.winds(-1, 1), BAD);
        x = told("i2,1,3;h5;o0,1;");
        due("winds(0, 60)", x.winds(0, 60), 15);
        due("WIND stays", x.stand(3), 3);
    }

    private static void keeping() {
        part = "promise 27";
        SpringIsle x = told(SMALL);
        x.wind(2);
        x.send(0, 1);
        x.send(1, 1);
        due("recall(1, 3, 0)", x.recall(1, 3, 0), 1);
        due("recall(1, 3, 1)", x.recall(1, 3, 1), 1);
        due("recall(0, 3, 0)", x.recall(0, 3, 0), 0);
        due("recall(0, 3, 1)", x.recall(0, 3, 1), 0);
        due("recall(2, 3, 0), not SENT", x.recall(2, 3, 0), NONE);
        due("recall(1, 4, 1), under water", x.recall(1, 4, 1), NONE);
        due("recall(1, 0, 0)", x.recall(1, 0, 0), BAD);
        due("recall(1, 41, 0)", x.recall(1, 41, 0), BAD);
        due("recall(1, 3, 2)", x.recall(1, 3, 2), BAD);
        due("recall(1, 3, -1)", x.recall(1, 3, -1), BAD);
        due("recall(3, 3, 0)", x.recall(3, 3, 0), BAD);
        due("recall(-1, 3, 0)", x.recall(-1, 3, 0), BAD);
        due("SENT stays", x.stand(4), 3);
        x = told(ALWAYS);
        x.send(0, 1);
        x.send(1, 1);
        x.send(2, 1);
        due("recall(2, 40, 0)", x.recall(2, 40, 0), 2);
        due("recall(2, 40, 1)", x.recall(2, 40, 1), 3);
        x = told("i2,1,0;h5;o9,1;o1,1;o1,1;o9,9;");
        for (int b = 0; b < 3; b++) x.send(b, 1);
        due("recall(0, 9, 0), others are faster", x.recall(0, 9, 0), 2);
        due("recall(0, 9, 1), others are faster", x.recall(0, 9, 1), 6);
        due("recall(0, 4, 0), too far off", x.recall(0, 4, 0), NONE);
        due("recall(0, 5, 0)", x.recall(0, 5, 0), 2);
        x = told(ALWAYS);
        for (int b = 0; b < 3; b++) x.send(b, 1);
        part = "promise 28";
        due("fleet(0, 9) without an ISLE", new SpringIsle().fleet(0, 9), STATE);
        due("fleet(1, 0)", x.fleet(1, 0), 1);
        due("fleet(1, 1)", x.fleet(1, 1), 1);
        due("fleet(1, 2)", x.fleet(1, 2), BAD);
        due("fleet(1, -1)", x.fleet(1, -1), BAD);
        due("fleet(0, 0)", x.fleet(0, 0), BAD);
        due("fleet(41, 0)", x.fleet(41, 0), BAD);
        due("SENT stays", x.stand(4), 7);
        due("fleet(9, 0) with one that is THERE", told(WIDE).fleet(4, 0), 0);
        due("fleet(9, 1) with one that is THERE", told(WIDE).fleet(4, 1), 0);
        due("fleet(40, 0) of NEVER", told(NEVER).fleet(40, 0), NONE);
        due("fleet(40, 1) of NEVER", told(NEVER).fleet(40, 1), NONE);
        x = told("i2,1,0;h5;s1,9;r9,1;o2,1;c1,9;f3,3;");
        due("fleet(1, 1), the first that comes", x.fleet(1, 1), 4);
        due("fleet(9, 1), the least bits", x.fleet(9, 1), 2);
    }

    private static void sandNeeded() {
        part = "promise 29";
        due("sandFor(0) without an ISLE", new SpringIsle().sandFor(0), STATE);
        SpringIsle x = told("i4,8,0;h0;h5;s1,1;");
        due("sandFor(1)", x.sandFor(1), 9);
        x.hours(1);
        due("sandFor(3)", x.sandFor(3), 0);
        due("sandFor(4)", x.sandFor(4), 9);
        x.sand(1, -1);
        due("sandFor(1), HEIGHT 4", x.sandFor(1), 5);
        due("sandFor(60)", x.sandFor(60), 9);
        due("sandFor(0)", x.sandFor(0), BAD);
        due("sandFor(61)", x.sandFor(61), BAD);
        due("HEIGHT stays", x.cell(0, 0), 0);
        due("the highest WATER", told(NEVER).sandFor(60), 31);
    }

    private static void fitting() {
        part = "promise 30";
        SpringIsle x = told(SMALL);
        x.send(1, 1);
        items(x, 0, 0, -1, -1, 1, -1, -1, -1, 1);
        items(x, 1, 1, -1, -1, -1, -1, -1, -1, 1);
        items(x, 2, 2, -1, -1, NONE);
        // OFF by 5 with SPEED 2 and no WIND: oars (3 an HOUR) are THERE in hour 2, a raft, a ferry in hour 10.
        due("KINDS, there at 2", x.who(1, 0, 0, 0, 3), 8);
        due("KINDS, by hour 6", x.who(1, 0, 0, 0, 7), 8);
        due("KINDS, not there at 2", x.who(1, 0, 1, 0, 6), 54);
        due("KINDS, there at 6 first", x.who(1, 0, 1, 0, 7), 0);
        due("SPEEDS without WIND", x.who(1, 1, 0, 0, 3), 0);
        due("SPEEDS without WIND, nobody", x.who(1, 1, 1, 0, 6), 1022);
        due("WINDS, there at 2", x.who(1, 2, 0, 0, 3), 12);
        due("WINDS, there at 6 first", x.who(1, 2, 1, 0, 7), 2);
        due("WINDS of another boat", x.who(0, 2, 1, 0, 7), 2);
        due("NONE is no boat", x.who(1, 2, 2, 0, 3), 0);
        x.wind(1);
        // SPEED by 2 an HOUR, three HOURS: 5 are made from SPEED 4 on.
        due("SPEEDS by WIND 1", x.who(1, 1, 0, 0, 3), 1008);
        x.hours(1);
        due("from i on", x.who(1, 1, 0, 1, 2), 1008);
        due("SPEED stays", x.boat(1, 1), 2);
        due("KIND stays", x.kind(1), 1);
        due("WIND stays", x.stand(3), 1);
        due("who(3, ..)", x.who(3, 0, 0, 0, 1), BAD);
        due("who(-1, ..)", x.who(-1, 0, 0, 0, 1), BAD);
        due("which 3", x.who(0, 3, 0, 0, 1), BAD);
        due("which -1", x.who(0, -1, 0, 0, 1), BAD);
        due("row 8", x.who(0, 0, 8, 0, 1), BAD);
        due("row -1", x.who(0, 0, -1, 0, 1), BAD);
        due("n 0", x.who(0, 0, 0, 0, 0), BAD);
        due("n 13", x.who(0, 0, 5, 0, 13), BAD);
        due("a missing row", x.who(0, 0, 5, 0, 1), NULL);
        due("beyond the end", x.who(0, 0, 0, 6, 2), PLACE);
        due("before the start", x.who(0, 0, 0, -1, 2), PLACE);
        due("i MOST", x.who(0, 0, 0, MOST, 12), PLACE);
        x.row(6, 0, 12);
        due("n 12", x.who(0, 0, 6, 0, 12), 0);
    }

    private static void barring() {
        part = "promise 31";
        SpringIsle x = new SpringIsle();
        due("barred(9, 0, 0) without an ISLE", x.barred(9, 0, 0), STATE);
        tell(x, ALWAYS);
        x.send(0, 1);
        x.send(1, 1);
        items(x, 0, 0, 0, 0);
        items(x, 1, 0, 1, 1);
        items(x, 2, 0, 2, 2);
        items(x, 3, 0, -1, 1);
        due("barred by 0 0", x.barred(0, 0, 2), 66);
        due("barred by 1 1", x.barred(1, 0, 2), 1);
        due("barred by 2 2", x.barred(2, 0, 2), 0);
        due("barred by 1 from 1 on", x.barred(3, 1, 1), 1);
        due("row 8", x.barred(8, 0, 1), BAD);
        due("row -1", x.barred(-1, 0, 1), BAD);
        due("n 0", x.barred(0, 0, 0), BAD);
        due("n 13", x.barred(7, 0, 13), BAD);
        due("a missing row", x.barred(7, 0, 1), NULL);
        due("beyond the end", x.barred(0, 1, 2), PLACE);
        due("before the start", x.barred(0, -1, 1), PLACE);
        due("SENT stays", x.stand(4), 3);
    }

    private static void richest() {
        part = "promise 32";
        SpringIsle x = new SpringIsle();
        due("rich() without an ISLE", x.rich(), STATE);
        tell(x, ALWAYS);
        due("rich() of none", x.rich(), NONE);
        x.send(1, 1);
        x.hours(2);
        due("rich()", x.rich(), 1);
        x.send(0, 1);
        x.send(1, 0);
        x.hours(1);
        due("rich(), 1 to 2", x.rich(), 1);
        x.hours(1);
        due("rich(), 2 to 2", x.rich(), 0);
        x.undo();
        due("rich() undone", x.rich(), 1);
    }

    private static void fraction(SpringIsle x, int boat, int n, int p, long above, long below) {
        String call = "wreck(" + boat + ", " + n + ", " + p + ", ";
        due(call + "0)", x.wreck(boat, n, p, 0), above);
        due(call + "1)", x.wreck(boat, n, p, 1), below);
    }

    private static void wrecks() {
        part = "promise 33";
        SpringIsle x = told(ALWAYS);
        fraction(x, 0, 5, 5, 0, 1);
        for (int b = 0; b < 3; b++) x.send(b, 1);
        fraction(x, 0, 1, 3, 7, 10);
        fraction(x, 1, 1, 3, 21, 100);
        fraction(x, 2, 60, 3, 63, 1000);
        fraction(x, 1, 1, 5, 1, 4);
        fraction(x, 0, 1, 0, 1, 1);
        fraction(x, 1, 1, 0, 0, 1);
        fraction(x, 0, 1, 10, 0, 1);
        fraction(x, 0, 0, 5, 0, 1);
        x.hours(1);
        fraction(x, 0, 0, 7, 1, 1);
        fraction(x, 0, 1, 2, 4, 5);
        due("boat 3", x.wreck(3, 1, 1, 0), BAD);
        due("boat -1", x.wreck(-1, 1, 1, 0), BAD);
        due("n 61", x.wreck(0, 61, 1, 0), BAD);
        due("n -1", x.wreck(0, -1, 1, 0), BAD);
        due("p 11", x.wreck(0, 1, 11, 0), BAD);
        due("p -1", x.wreck(0, 1, -1, 0), BAD);
        due("what 2", x.wreck(0, 1, 1, 2), BAD);
        due("what -1", x.wreck(0, 1, 1, -1), BAD);
        due("SENT stays", x.stand(4), 7);
        x = told("i2,1,0;h5;o1,1;o1,1;o1,1;o1,1;o1,1;o1,1;");
        for (int b = 0; b < 6; b++) x.send(b, 1);
        fraction(x, 5, 1, 9, 59049, 1000000);
    }

    private static void draws() {
        part = "promise 34";
        due("drawn(99, 0, 0) without an ISLE", new SpringIsle().drawn(99, 0, 0), STATE);
        SpringIsle x = told("i2,1,0;h5;o1,1;r1,1;");
        // By 1: boat 0 is SENT ahead of the 5th HOUR, called back ahead of the 11th; boat 1 has it in the 13th.
        int[] hours = {0, 0, 0, 0, 0, 1, 2, 3, 4, 5, 6, 6, 6, 7};
        int[] turns = {0, 0, 0, 0, 0, 1, 1, 1, 1, 1, 1, 1, 1, 2};
        for (int n = 0; n < hours.length; n++) {
            due("drawn(" + n + ", 1, 0)", x.drawn(n, 1, 0), hours[n]);
            due("drawn(" + n + ", 1, 1)", x.drawn(n, 1, 1), turns[n]);
        }
        due("nothing changes", x.count(3) + x.count(4) + x.stand(3), 0);
        due("drawn(-1, 1, 0)", x.drawn(-1, 1, 0), BAD);
        due("drawn(61, 1, 0)", x.drawn(61, 1, 0), BAD);
        due("drawn(1, 0, 0)", x.drawn(1, 0, 0), BAD);
        due("drawn(1, 1000000, 0)", x.drawn(1, 1000000, 0), BAD);
        due("drawn(1, 999999, 0)", x.drawn(1, 999999, 0), 0);
        due("drawn(1, 1, 2)", x.drawn(1, 1, 2), BAD);
        due("drawn(1, 1, -1)", x.drawn(1, 1, -1), BAD);
        x = told("i2,1,0;h5;s0,1;");
        x.hours(3);
        due("HOURS in these alone", x.drawn(60, 7, 0), 60);
        due("the first one in these counts", x.drawn(60, 7, 1), 1);
        due("none in none", x.drawn(0, 7, 1), 0);
    }

    private static void images() {
        part = "promises 35 and 36";
        SpringIsle x = new SpringIsle();
        due("image(0) without an ISLE", x.image(0), STATE);
        due("image(2) without an ISLE", x.image(2), BAD);
        due("image(-1)", x.image(-1), BAD);
        due("restore(0) of none", x.restore(0), STATE);
        due("restore(2)", x.restore(2), BAD);
        due("restore(-1)", x.restore(-1), BAD);
        tell(x, ALWAYS);
        x.send(1, 1);
        x.hours(2);
        due("image(1)", x.image(1), 1);
        due("restore(0) of none", x.restore(0), STATE);
        due("ACTS stay", x.count(6), 3);
        tell(x, WIDE);
        x.wind(0);
        x.hours(3);
        due("image(0)", x.image(0), 1);
        x.hours(3);
        due("restore(1)", x.restore(1), 1);
        due("no ACT", x.count(6), 0);
        due("undo()", x.undo(), STATE);
        due("BOATS", x.count(2), 3);
        due("HOUR", x.count(3), 2);
        due("SENT", x.count(4), 2);
        due("HELD", x.boat(1, 4), 2);
        due("OWNER", x.stand(2), 1);
        x.sand(0, -5);
        x.speed(1, 9);
        due("restore(1) again", x.restore(1), 1);
        due("HEIGHT", x.cell(0, 0), 5);
        due("SPEED", x.boat(1, 1), 1);
        due("restore(0)", x.restore(0), 1);
        due("WIND", x.stand(3), 0);
        due("HOUR of 0", x.count(3), 3);
        due("KIND of 0", x.kind(4), 5);
        due("a new image", x.image(1), 1);
        due("restore(1)", x.restore(1), 1);
        due("BOATS of the new image", x.count(2), 6);
    }

    private static void kinds() {
        part = "promise 37";
        SpringIsle x = new SpringIsle();
        due("kind(0) without an ISLE", x.kind(0), BAD);
        tell(x, WIDE);
        int[] kinds = {1, 2, 3, 4, 5, 1};
        for (int b = 0; b < 6; b++) due("kind(" + b + ")", x.kind(b), kinds[b]);
        due("kind(6)", x.kind(6), BAD);
        due("kind(-1)", x.kind(-1), BAD);
        part = "promise 38";
        boolean[][] is = {
            {true, true, false, false, false, false},
            {true, true, true, false, false, false},
            {true, true, false, true, false, false},
            {true, false, false, false, true, false},
            {true, false, false, false, true, true},
        };
        for (int b = 0; b < 5; b++) {
            for (int kind = 0; kind < 6; kind++) {
                due("as(" + b + ", " + kind + ")", x.as(b, kind), is[b][kind] ? b : KIND);
                due("status()", x.status(), is[b][kind] ? 0 : 3);
            }
        }
        due("as(6, 0)", x.as(6, 0), BAD);
        due("as(-1, 0)", x.as(-1, 0), BAD);
        due("as(0, 6)", x.as(0, 6), BAD);
        due("as(0, -1)", x.as(0, -1), BAD);
    }

    private static void ask(SpringIsle x, int boat, int what, int answer, int... trace) {
        due("ask(" + boat + ", " + what + ")", x.ask(boat, what), answer);
        for (int i = 0; i < trace.length; i++) due("trace(" + i + ") of it", x.trace(i), trace[i]);
        due("trace() behind the last of it", x.trace(trace.length), NONE);
    }

    private static void asks() {
        part = "promises 39 and 40";
        SpringIsle x = new SpringIsle();
        due("ask(0, 0) without an ISLE", x.ask(0, 0), BAD);
        due("trace(0)", x.trace(0), NONE);
        tell(x, "i8,9,2;h3;f9,4;s6,3;c7,5;o4,8;r5,6;");
        ask(x, 0, 0, -96, 13, 10);
        ask(x, 0, 1, 96, 23, 20, 13, 10);
        ask(x, 1, 0, 10, 11, 10, 21, 20);
        ask(x, 1, 1, 7, 21, 20);
        ask(x, 2, 0, -23, 12, 11, 10, 24, 21, 20);
        ask(x, 2, 1, 18, 24, 21, 20);
        ask(x, 3, 0, -985, 11, 10, 22, 21, 20);
        ask(x, 3, 1, -993, 22, 21, 20);
        ask(x, 4, 0, -188, 14, 13, 10);
        ask(x, 4, 1, 192, 23, 20, 14, 13, 10);
        due("ask(5, 0)", x.ask(5, 0), BAD);
        due("ask(-1, 0)", x.ask(-1, 0), BAD);
        due("ask(0, 2)", x.ask(0, 2), BAD);
        due("ask(0, -1)", x.ask(0, -1), BAD);
        due("the trace stays", x.trace(4), 10);
        due("trace(-1)", x.trace(-1), NONE);
        due("trace(16)", x.trace(16), NONE);
        due("trace(MOST)", x.trace(MOST), NONE);
        x.send(1, 1);
        x.hours(1);
        ask(x, 1, 1, 4, 21, 20);
        x.speed(1, 9);
        ask(x, 1, 0, 13, 11, 10, 21, 20);
    }

    private static void counts() {
        part = "promise 41";
        SpringIsle x = told(WIDE);
        x.row(3, 0, 1);
        x.row(5, 0, 1);
        x.send(4, 1);
        x.hours(5);
        x.feed(1);
        int[] all = {2, 3, 6, 5, 16, 3, 6, 1};
        for (int what = 0; what < 8; what++) due("count(" + what + ")", x.count(what), all[what]);
        due("count(8)", x.count(8), BAD);
        due("count(-1)", x.count(-1), BAD);
    }

    private static void statuses() {
        part = "promise 42";
        SpringIsle x = told(ALWAYS);
        x.row(0, 0, 2);
        x.row(1, 1, 2);
        x.copy(0, 0, 1, 0, 1);
        due("STORE", x.status(), 5);
        x.row(8, 0, 1);
        x.set(8, 0, 1);
        x.who(9, 0, 0, 0, 1);
        x.barred(0, 0, 0);
        x.as(9, 0);
        x.hours(1);
        x.kind(9);
        x.count(0);
        due("BAD, and calls without a ROW, leave it", x.status(), 5);
        new SpringIsle().barred(0, 0, 1);
        x.drop(7);
        due("NULL", x.status(), 1);
        x.set(0, 0, 0);
        due("none of set()", x.status(), 0);
        x.set(0, 2, 0);
        due("PLACE", x.status(), 2);
        x.copy(0, 0, 0, 0, 2);
        due("none of copy()", x.status(), 0);
        x.row(0, 0, -1);
        due("SIZE", x.status(), 4);
        x.row(2, 0, 1);
        due("none of row()", x.status(), 0);
        x.as(0, 5);
        due("KIND", x.status(), 3);
        x.as(0, 0);
        due("none of as()", x.status(), 0);
        x.who(0, 0, 7, 0, 1);
        due("NULL of who()", x.status(), 1);
        x.who(0, 0, 0, 0, 1);
        due("none of who()", x.status(), 0);
        x.barred(0, 2, 1);
        due("PLACE of barred()", x.status(), 2);
        x.barred(0, 0, 1);
        due("none of barred()", x.status(), 0);
        x.drop(7);
        x.drop(2);
        due("none of drop()", x.status(), 0);
        SpringIsle none = new SpringIsle();
        none.row(0, 0, -1);
        none.barred(0, 0, 1);
        due("STATE leaves it", none.status(), 4);
    }
}
