/** Each promise of the document by answers told by hand: ordinary calls, the edges, and wrong ones. */
public final class PromiseTests {
    private static final int BAD = -1, NO = -2, FULL = -3, NONE = -4;
    private static int wrong = 0;
    private static String promise = "";

    public static void main(String[] args) {
        newObject();
        write();
        wipe();
        fault();
        faultsOfItems();
        lay();
        layEndsAll();
        maker();
        order();
        bobbin();
        at();
        rowsOfEachKind();
        rowsOfFewBobbins();
        made();
        say();
        unpick();
        sit();
        change();
        cut();
        undo();
        behind();
        round();
        brings();
        home();
        ways();
        alike();
        deal();
        see();
        forget();
        who();
        said();
        slip();
        slips();
        winter();
        keep();
        back();
        count();
        wrongCallsChangeNothing();
        System.out.println(wrong == 0 ? "all promises hold" : wrong + " answers are not as due");
        if (wrong != 0) {
            System.exit(1);
        }
    }

    private static void due(String call, int got, int want) {
        if (got != want) {
            wrong++;
            System.out.println("promise " + promise + ": " + call + " answered " + got + ", due is " + want);
        }
    }

    private static void writeAll(BobbinTalk x, String letters) {
        for (int i = 0; i < letters.length(); i++) {
            x.write(letters.charAt(i));
        }
    }

    private static BobbinTalk laid(String letters) {
        BobbinTalk x = new BobbinTalk();
        writeAll(x, letters);
        if (x.lay() < 0) {
            wrong++;
            System.out.println("promise " + promise + ": " + letters + " is not laid");
        }
        return x;
    }

    private static int faultOf(String letters) {
        BobbinTalk x = new BobbinTalk();
        writeAll(x, letters);
        return x.fault();
    }

    /** The bobbins from the left as figures, the leftmost one the highest. */
    private static int lies(BobbinTalk x) {
        int all = 0;
        for (int p = 0; p < x.count(0); p++) {
            all = all * 10 + x.at(p);
        }
        return all;
    }

    private static int liesBehind(BobbinTalk x, int m, int saying) {
        int all = 0;
        for (int p = 0; p < x.count(0); p++) {
            all = all * 10 + x.behind(m, saying, p);
        }
        return all;
    }

    private static void newObject() {
        promise = "1";
        BobbinTalk x = new BobbinTalk();
        int[] counts = {6, 4, 4, 0, 0, 6, 0, 0, 0, 0};
        for (int what = 0; what < counts.length; what++) {
            due("count(" + what + ")", x.count(what), counts[what]);
        }
        int[][] makers = {{0, 3, 1, 2, 3, 4}, {1, 2, 2, 1, 5, 4}, {2, 1, 1, 5, 2, 3}, {3, 5, 1, 2, 3, 0}};
        for (int m = 0; m < 4; m++) {
            for (int what = 0; what < 6; what++) {
                due("maker(" + m + ", " + what + ")", x.maker(m, what), makers[m][what]);
            }
        }
        int[] orders = {12, 7, 20, 5};
        int[] spangles = {3, 3, 5, 1, 7, 0};
        for (int k = 0; k < 4; k++) {
            due("order(" + k + ")", x.order(k), orders[k]);
        }
        for (int b = 0; b < 6; b++) {
            due("bobbin(" + b + ", 0)", x.bobbin(b, 0), b);
            due("bobbin(" + b + ", 1)", x.bobbin(b, 1), spangles[b]);
        }
        due("fault()", x.fault(), NONE);
        due("lay()", x.lay(), NO);
        due("undo()", x.undo(), NO);
        due("back()", x.back(), NO);
        due("unpick()", x.unpick(), NO);
        // TWIST, ACROSS by maker 0; HALF from the right by 1; TWIST for 3 by 2; TWIST, ACROSS twice by 3
        due("lies behind c by 0", liesBehind(x, 0, 3), 130524);
        due("lies behind c by 1", liesBehind(x, 1, 3), 12354);
        due("lies behind d by 2", liesBehind(x, 2, 4), 103254);
        due("lies behind c by 3", liesBehind(x, 3, 3), 351402);
        due("say(3)", x.say(3), 4);
        due("lies", lies(x), 204153);
        due("BAD", BobbinTalk.BAD, BAD);
        due("NO", BobbinTalk.NO, NO);
        due("FULL", BobbinTalk.FULL, FULL);
        due("NONE", BobbinTalk.NONE, NONE);
    }

    private static void write() {
        promise = "2";
        BobbinTalk x = new BobbinTalk();
        due("write(31)", x.write(31), BAD);
        due("write(127)", x.write(127), BAD);
        due("write(-1)", x.write(-1), BAD);
        due("write(MIN)", x.write(Integer.MIN_VALUE), BAD);
        due("count(9)", x.count(9), 0);
        due("write(32)", x.write(32), 1);
        due("write(126)", x.write(126), 2);
        for (int i = 3; i <= 200; i++) {
            due("write('n')", x.write('n'), i);
        }
        due("write('n') of 201", x.write('n'), FULL);
        due("write(31) of 201", x.write(31), BAD);
        due("count(9)", x.count(9), 200);
    }

    private static void wipe() {
        promise = "3";
        BobbinTalk x = new BobbinTalk();
        due("wipe()", x.wipe(), 0);
        writeAll(x, "xyz");
        due("fault()", x.fault(), 0);
        due("wipe()", x.wipe(), 3);
        due("wipe()", x.wipe(), 0);
        due("fault()", x.fault(), NONE);
        due("write('m')", x.write('m'), 1);
        x.wipe();
        writeAll(x, "n5;");
        x.wipe();
        writeAll(x, "n5");
        due("fault(), the ; wiped out", x.fault(), 0);
    }

    private static void fault() {
        promise = "4";
        due("fault of nothing", faultOf(""), NONE);
        due("fault of all", faultOf("n6;m0,3,1234;m1,2,2154;m2,1,1523;m3,5,1230;o12;o7;o20;o5;s335170;"), NONE);
        due("fault of a second item", faultOf("n4;m0,3,1236;o12;"), 3);
        due("fault of a third item", faultOf("n4;m0,3,1234;p12;"), 13);
        due("fault without ; at the end", faultOf("n4;m0,3,1234;o12"), 13);
        due("fault without ; between", faultOf("n4;o12m0,3,1234;"), 3);
        due("fault of the first of two", faultOf("n4;o0;o61;"), 3);
        due("fault of a lone letter", faultOf("n"), 0);
        due("fault of a lone ;", faultOf(";"), 0);
        due("fault of ;;", faultOf("n4;;"), 3);
        due("fault of a space", faultOf(" n4;"), 0);
        due("fault of a space behind", faultOf("n4; "), 3);
        due("fault of a capital", faultOf("N4;"), 0);
        BobbinTalk x = new BobbinTalk();
        writeAll(x, "n3;m0,1,1234;o5;s012;");
        for (int i = 0; i < 3; i++) {
            due("fault(), once more", x.fault(), NONE);
        }
        StringBuilder long200 = new StringBuilder();
        for (int i = 0; i < 66; i++) {
            long200.append("n5;");
        }
        due("fault of 198 letters", faultOf(long200.toString()), NONE);
        due("fault of 200 letters, cut short", faultOf(long200 + "n5;"), 198);
    }

    private static void faultsOfItems() {
        promise = "4, items";
        String[] fine = {"n2;", "n6;", "n02;", "n06;", "n5;n3;", "n3;s012;", "n3;s012;s999;", "s012345;",
            "m0,1,0000;", "m3,9,5555;", "m00,01,1234;", "m03,09,1234;", "o1;", "o60;", "o01;", "o5;m0,1,1234;s012345;",
            "o1;o1;o1;o1;o1;o1;", "m0,1,0000;m0,1,0000;m0,1,0000;m0,1,0000;", "n2;n3;n4;s0123;"};
        for (String letters : fine) {
            due("fault of " + letters, faultOf(letters), NONE);
        }
        String[] first = {"n1;", "n7;", "n0;", "n;", "n006;", "n-5;", "n5,;", "n16;", "m4,1,1234;", "m0,0,1234;",
            "m0,10,1234;", "m0,1,123;", "m0,1,12345;", "m0,1,1236;", "m,1,1234;", "m0,,1234;", "m0,1;", "m0;",
            "m0,1,1234,;", "m000,1,1234;", "m0,001,1234;", "m0 1,1234;", "m10,1,1234;", "m0,1,1,2,3,4;", "o0;", "o61;",
            "o060;", "o;", "o99;", "s01234;", "s0123456;", "s;", "s01234a;", "s0,1,2,3,4,5;", "s012345"};
        for (String letters : first) {
            due("fault of " + letters, faultOf(letters), 0);
        }
        due("n behind m", faultOf("m0,1,1234;n6;"), 10);
        due("n behind o", faultOf("o9;n6;"), 3);
        due("n behind s", faultOf("s012345;n6;"), 8);
        due("n behind n and s", faultOf("n6;s012345;n6;"), 11);
        due("s of 6 for 3", faultOf("n3;s012345;"), 3);
        due("s of 3 for 2, the last n", faultOf("n3;n2;s012;"), 6);
        due("a fifth m", faultOf("m0,1,0000;m0,1,0000;m0,1,0000;m0,1,0000;m0,1,0000;"), 40);
        due("a seventh o", faultOf("o1;o1;o1;o1;o1;o1;o1;"), 18);
    }

    private static void lay() {
        promise = "5";
        BobbinTalk x = new BobbinTalk();
        writeAll(x, "n3;");
        due("lay() without a maker", x.lay(), NO);
        due("count(0)", x.count(0), 6);
        writeAll(x, "m2,7,5432;o9;");
        due("lay()", x.lay(), 3);
        due("count(9)", x.count(9), 16);
        due("count(1)", x.count(1), 1);
        due("count(2)", x.count(2), 1);
        due("order(0)", x.order(0), 9);
        due("maker(0, 0)", x.maker(0, 0), 2);
        due("maker(0, 1)", x.maker(0, 1), 7);
        due("maker(0, 5)", x.maker(0, 5), 2);
        due("bobbin(2, 1), spangles without", x.bobbin(2, 1), 2);
        x.write('o');
        due("lay() with a fault", x.lay(), NO);
        due("count(0)", x.count(0), 3);
        due("maker(0, 5)", x.maker(0, 5), 2);
        due("bobbins without n", laid("m0,1,0000;").count(0), 6);
        due("bobbins, the last n", laid("n2;n5;m0,1,0000;").count(0), 5);
        BobbinTalk y = laid("n2;m0,1,0000;s12;s34;");
        due("spangle, the last s", y.bobbin(0, 1) * 10 + y.bobbin(1, 1), 34);
        y.wipe();
        writeAll(y, "n2;m0,1,0000;");
        due("lay()", y.lay(), 2);
        due("spangle, without again", y.bobbin(0, 1) * 10 + y.bobbin(1, 1), 1);
        due("orders of none", y.count(2), 0);
        y.wipe();
        due("lay() of nothing", y.lay(), NO);
        due("fault() of nothing", y.fault(), NONE);
        due("count(0), laid as before", y.count(0), 2);
        due("count(1), laid as before", y.count(1), 1);
        writeAll(y, "m0,1,1000;o3;");
        due("lay() without n behind one with n", y.lay(), 6);
        due("count(2)", y.count(2), 1);
        due("say(0)", y.say(0), 1);
        due("lies", lies(y), 103254);
        y.wipe();
        writeAll(y, "n3;s555;o4");
        due("fault()", y.fault(), 8);
        due("count(0), laid as before", y.count(0), 6);
        due("order(0), laid as before", y.order(0), 3);
        due("bobbin(1, 1), laid as before", y.bobbin(1, 1), 1);
    }

    private static void layEndsAll() {
        promise = "5, all new";
        BobbinTalk x = laid("n4;m0,1,1234;m1,1,5555;");
        x.sit(1);
        x.say(0);
        x.see(5);
        x.keep();
        due("lay()", x.lay(), 4);
        due("lies", lies(x), 123);
        int[] counts = {4, 2, 0, 0, 0, 4, 0, 0, 0};
        for (int what = 0; what < counts.length; what++) {
            due("count(" + what + ")", x.count(what), counts[what]);
        }
        due("undo()", x.undo(), NO);
        due("back()", x.back(), NO);
        due("unpick()", x.unpick(), NO);
        due("forget()", x.forget(), 0);
        x.say(2);
        x.wipe();
        due("lay() of nothing", x.lay(), NO);
        due("count(4), nothing new", x.count(4), 1);
        due("count(7), nothing new", x.count(7), 1);
    }

    private static void maker() {
        promise = "6";
        BobbinTalk x = laid("m3,9,0512;m1,4,5043;");
        int[] want = {1, 4, 5, 0, 4, 3};
        for (int what = 0; what < 6; what++) {
            due("maker(1, " + what + ")", x.maker(1, what), want[what]);
        }
        due("maker(2, 0)", x.maker(2, 0), BAD);
        due("maker(-1, 0)", x.maker(-1, 0), BAD);
        due("maker(0, 6)", x.maker(0, 6), BAD);
        due("maker(0, -1)", x.maker(0, -1), BAD);
        due("maker(MAX, MAX)", x.maker(Integer.MAX_VALUE, Integer.MAX_VALUE), BAD);
    }

    private static void order() {
        promise = "7";
        BobbinTalk x = laid("m0,1,0000;o1;o60;o33;");
        due("order(0)", x.order(0), 1);
        due("order(1)", x.order(1), 60);
        due("order(2)", x.order(2), 33);
        due("order(3)", x.order(3), BAD);
        due("order(-1)", x.order(-1), BAD);
    }

    private static void bobbin() {
        promise = "8";
        BobbinTalk x = laid("n4;m0,1,1234;s9081;");
        x.say(0);
        int[] places = {1, 0, 3, 2};
        int[] spangles = {9, 0, 8, 1};
        for (int b = 0; b < 4; b++) {
            due("bobbin(" + b + ", 0)", x.bobbin(b, 0), places[b]);
            due("bobbin(" + b + ", 1)", x.bobbin(b, 1), spangles[b]);
        }
        due("bobbin(4, 0)", x.bobbin(4, 0), BAD);
        due("bobbin(-1, 0)", x.bobbin(-1, 0), BAD);
        due("bobbin(0, 2)", x.bobbin(0, 2), BAD);
        due("bobbin(0, -1)", x.bobbin(0, -1), BAD);
    }

    private static void at() {
        promise = "9";
        BobbinTalk x = laid("n3;m0,1,3333;");
        x.say(0);
        due("at(0)", x.at(0), 1);
        due("at(1)", x.at(1), 2);
        due("at(2)", x.at(2), 0);
        due("bobbin(0, 0)", x.bobbin(0, 0), 2);
        due("at(3)", x.at(3), BAD);
        due("at(-1)", x.at(-1), BAD);
    }

    /**
     * Of each kind how five bobbins lie behind each row, from 01234.
     * From the right TWIST is 3-4, 1-2 and ACROSS 2-3, 0-1: 02143, then 20413.
     * TWIST, ACROSS twice: 10324, 13042, 31402, 34120; ACROSS, TWIST twice: 02143, 20413, 24031, 42301.
     */
    private static void rowsOfEachKind() {
        promise = "11, rows";
        int[][] want = {
            {1234, 10324, 2143, 13042, 20413, 10234},
            {1234, 2143, 10324, 20413, 13042, 1243},
            {1234, 10324, 2143, 10324, 2143, 10234},
            {1234, 1234, 1234, 34120, 42301, 1234}};
        for (int kind = 0; kind < 4; kind++) {
            for (int row = 0; row < 6; row++) {
                BobbinTalk x = laid("n5;m" + kind + ",1,000" + row + ";");
                due("say(3) of " + row + " by kind " + kind, x.say(3), row);
                due("lies behind " + row + " by kind " + kind, lies(x), want[kind][row]);
            }
        }
    }

    private static void rowsOfFewBobbins() {
        promise = "11, two and six bobbins";
        int[] two = {1, 10, 1, 10, 10, 10};
        int[] six = {12345, 103254, 21435, 130524, 204153, 102345};
        int[] sixFromTheRight = {12345, 103254, 21435, 130524, 204153, 12354};
        for (int row = 0; row < 6; row++) {
            BobbinTalk x = laid("n2;m0,1," + row + "000;");
            x.say(0);
            due("two bobbins behind " + row, lies(x), two[row]);
            x = laid("n6;m0,1,0" + row + "00;");
            x.say(1);
            due("six bobbins behind " + row, lies(x), six[row]);
            x = laid("n6;m1,1,00" + row + "0;");
            x.say(2);
            due("six bobbins behind " + row + ", left-handed", lies(x), sixFromTheRight[row]);
        }
    }

    private static void made() {
        promise = "10";
        BobbinTalk x = laid("n4;m0,1,1234;m1,1,5555;");
        due("made(0, 0)", x.made(0, 0), NONE);
        x.say(3);
        x.sit(1);
        x.say(0);
        due("made(0, 0)", x.made(0, 0), 4);
        due("made(0, 1)", x.made(0, 1), 0);
        due("made(1, 0)", x.made(1, 0), 5);
        due("made(1, 1)", x.made(1, 1), 1);
        due("made(2, 0)", x.made(2, 0), NONE);
        due("made(MAX, 1)", x.made(Integer.MAX_VALUE, 1), NONE);
        due("made(-1, 0)", x.made(-1, 0), BAD);
        due("made(0, 2)", x.made(0, 2), BAD);
        due("made(2, -1)", x.made(2, -1), BAD);
        due("made(9, 2)", x.made(9, 2), BAD);
    }

    private static void say() {
        promise = "11";
        BobbinTalk x = laid("n4;m0,1,1405;");
        due("say(-1)", x.say(-1), BAD);
        due("say(4)", x.say(4), BAD);
        due("say(0)", x.say(0), 1);
        due("lies", lies(x), 1032);
        due("say(1)", x.say(1), 4);
        due("lies", lies(x), 3120);
        due("say(2)", x.say(2), 0);
        due("say(3)", x.say(3), 5);
        due("lies", lies(x), 1320);
        for (int i = 4; i < 24; i++) {
            due("say(2)", x.say(2), 0);
        }
        due("say(0) of 25", x.say(0), FULL);
        due("say(4) of 25", x.say(4), BAD);
        due("count(4)", x.count(4), 24);
        due("made(23, 0)", x.made(23, 0), 0);
        due("lies", lies(x), 1320);
        due("unpick()", x.unpick(), 23);
        due("say(0)", x.say(0), 1);
    }

    private static void unpick() {
        promise = "12";
        BobbinTalk x = laid("n4;m0,1,1234;m1,1,5555;");
        due("unpick()", x.unpick(), NO);
        x.change(0, 1);
        x.say(0);
        due("lies", lies(x), 132);
        x.change(0, 3);
        x.sit(1);
        x.say(0);
        due("unpick()", x.unpick(), 1);
        due("lies", lies(x), 3102);
        due("count(3)", x.count(3), 1);
        x.change(1, 2);
        due("unpick()", x.unpick(), 0);
        due("lies, changed behind the row no more", lies(x), 1023);
        due("unpick()", x.unpick(), NO);
        x.say(0);
        x.cut();
        due("unpick() of what is cut off", x.unpick(), NO);
    }

    private static void sit() {
        promise = "13";
        BobbinTalk x = laid("n4;m0,1,1234;m1,1,5555;");
        due("sit(1)", x.sit(1), 0);
        due("sit(1)", x.sit(1), 1);
        due("count(7)", x.count(7), 2);
        due("say(3)", x.say(3), 5);
        due("sit(0)", x.sit(0), 1);
        due("sit(2)", x.sit(2), BAD);
        due("sit(-1)", x.sit(-1), BAD);
        due("count(3)", x.count(3), 0);
    }

    private static void change() {
        promise = "14";
        BobbinTalk x = laid("n4;m0,1,1234;");
        due("change(0, 3)", x.change(0, 3), 3);
        due("lies", lies(x), 3120);
        due("change(0, 1)", x.change(0, 1), 1);
        due("lies", lies(x), 3021);
        due("change(2, 3)", x.change(2, 3), 0);
        due("lies", lies(x), 2031);
        due("count(4)", x.count(4), 0);
        due("change(1, 1)", x.change(1, 1), BAD);
        due("change(4, 1)", x.change(4, 1), BAD);
        due("change(1, 4)", x.change(1, 4), BAD);
        due("change(-1, 1)", x.change(-1, 1), BAD);
        due("change(1, -1)", x.change(1, -1), BAD);
        due("count(7)", x.count(7), 3);
    }

    private static void cut() {
        promise = "15";
        BobbinTalk x = laid("n4;m0,1,1234;");
        due("cut()", x.cut(), 0);
        due("count(7)", x.count(7), 1);
        x.say(0);
        x.say(1);
        due("cut()", x.cut(), 2);
        due("count(4)", x.count(4), 0);
        due("made(0, 0)", x.made(0, 0), NONE);
        due("lies", lies(x), 1302);
    }

    private static void undo() {
        promise = "16";
        BobbinTalk x = laid("n4;m0,1,1234;m1,1,5555;");
        due("undo()", x.undo(), NO);
        x.say(0);
        x.sit(1);
        x.change(0, 3);
        x.say(0);
        x.unpick();
        x.cut();
        due("undo() of cut", x.undo(), 5);
        due("count(4)", x.count(4), 1);
        due("undo() of unpick", x.undo(), 4);
        due("count(4)", x.count(4), 2);
        due("made(1, 1)", x.made(1, 1), 1);
        due("lies", lies(x), 1320);
        due("undo() of say", x.undo(), 3);
        due("lies", lies(x), 1302);
        due("undo() of change", x.undo(), 2);
        due("lies", lies(x), 1032);
        due("undo() of sit", x.undo(), 1);
        due("count(3)", x.count(3), 0);
        due("undo() of say", x.undo(), 0);
        due("lies", lies(x), 123);
        due("undo()", x.undo(), NO);
        for (int i = 0; i < 11; i++) {
            x.say(1);
        }
        for (int i = 7; i >= 0; i--) {
            due("undo() of the latest 8", x.undo(), i);
            due("count(4)", x.count(4), i + 3);
        }
        due("undo() of a ninth", x.undo(), NO);
        due("count(4)", x.count(4), 3);
        x.unpick();
        x.say(0);
        x.say(2);
        x.undo();
        x.undo();
        x.undo();
        due("made(2, 0), unpicked and made otherwise between", x.made(2, 0), 2);
        x.see(3);
        x.keep();
        x.say(9);
        due("count(7), nothing to undo by these", x.count(7), 0);
    }

    private static void behind() {
        promise = "17";
        BobbinTalk x = laid("n4;m0,1,1234;m1,1,5005;");
        due("behind a", liesBehind(x, 0, 1), 1032);
        due("behind ab", liesBehind(x, 0, 7), 1302);
        due("behind ba", liesBehind(x, 0, 11), 2031);
        due("behind a, left-handed", liesBehind(x, 1, 1), 132);
        due("lies", lies(x), 123);
        x.change(0, 3);
        due("behind ab", liesBehind(x, 0, 7), 1032);
        due("behind dddddddd", liesBehind(x, 1, 390624), 3120);
        due("behind(0, 390625, 0)", x.behind(0, 390625, 0), BAD);
        due("behind(0, 0, 0)", x.behind(0, 0, 0), BAD);
        due("behind(0, -1, 0)", x.behind(0, -1, 0), BAD);
        due("behind(0, 5, 0)", x.behind(0, 5, 0), BAD);
        due("behind(0, 26, 0)", x.behind(0, 26, 0), BAD);
        due("behind(0, 97656 * 5, 0)", x.behind(0, 97656 * 5, 0), BAD);
        due("behind(0, nine sounds, 0)", x.behind(0, 488281, 0), BAD);
        due("behind(0, MAX, 0)", x.behind(0, Integer.MAX_VALUE, 0), BAD);
        due("behind(2, 1, 0)", x.behind(2, 1, 0), BAD);
        due("behind(-1, 1, 0)", x.behind(-1, 1, 0), BAD);
        due("behind(0, 1, 4)", x.behind(0, 1, 4), BAD);
        due("behind(0, 1, -1)", x.behind(0, 1, -1), BAD);
    }

    private static void round() {
        promise = "18";
        BobbinTalk x = laid("n6;m0,1,1230;m3,1,1234;");
        due("round of TWIST", x.round(0, 1), 2);
        due("round of PIN", x.round(0, 4), 1);
        due("round of TWIST, ACROSS", x.round(0, 3), 6);
        due("round of aa", x.round(0, 6), 1);
        due("round of cc", x.round(0, 18), 3);
        due("round of ccc", x.round(0, 93), 2);
        due("round of TWIST, ACROSS twice", x.round(1, 3), 3);
        x.change(2, 4);
        due("round of TWIST, ACROSS", x.round(0, 3), 6);
        due("round of it by five", laid("n5;m0,1,3333;").round(0, 1), 5);
        due("round(2, 1)", x.round(2, 1), BAD);
        due("round(-1, 1)", x.round(-1, 1), BAD);
        due("round(0, 0)", x.round(0, 0), BAD);
        due("round(0, 10)", x.round(0, 10), BAD);
    }

    private static void brings() {
        promise = "19";
        BobbinTalk x = laid("n4;m0,1,1250;m0,1,1111;");
        due("brings 0 to 0", x.brings(0, 0, 0), 0);
        due("brings 0 to 1, a ahead of c", x.brings(0, 0, 1), 1);
        due("brings 0 to 2 by ab", x.brings(0, 0, 2), 7);
        due("brings 0 to 3 by aba", x.brings(0, 0, 3), 36);
        due("brings 3 to 0 by aba", x.brings(0, 3, 0), 36);
        due("brings 2 to 0 by ba", x.brings(0, 2, 0), 11);
        due("brings 0 to 2 by none", x.brings(1, 0, 2), NONE);
        due("brings 0 to 1", x.brings(1, 0, 1), 1);
        x.change(0, 3);
        due("brings 0 to 3, changed", x.brings(0, 0, 3), 0);
        due("brings 3 to 3, changed", x.brings(0, 3, 3), 36);
        BobbinTalk y = laid("n6;m0,1,0012;");
        due("brings 0 to 5 by cdcdc", y.brings(0, 0, 5), (((3 * 5 + 4) * 5 + 3) * 5 + 4) * 5 + 3);
        due("brings 1 to 5 by dcdc", y.brings(0, 1, 5), ((4 * 5 + 3) * 5 + 4) * 5 + 3);
        due("brings(2, 0, 0)", x.brings(2, 0, 0), BAD);
        due("brings(-1, 0, 0)", x.brings(-1, 0, 0), BAD);
        due("brings(0, 4, 0)", x.brings(0, 4, 0), BAD);
        due("brings(0, -1, 0)", x.brings(0, -1, 0), BAD);
        due("brings(0, 0, 4)", x.brings(0, 0, 4), BAD);
        due("brings(0, 0, -1)", x.brings(0, 0, -1), BAD);
    }

    private static void home() {
        promise = "20";
        BobbinTalk x = laid("n4;m0,1,1250;m0,1,1111;");
        due("home(0)", x.home(0), 0);
        x.say(0);
        due("home(0)", x.home(0), 1);
        x.say(1);
        due("home(0) by ba", x.home(0), 2);
        due("home(1)", x.home(1), NONE);
        BobbinTalk y = laid("n3;m0,1,0012;");
        y.change(0, 2);
        due("home of 210 by three", y.home(0), 3);
        due("home(1)", y.home(1), BAD);
        due("home(-1)", y.home(-1), BAD);
        due("home(0), nothing changed", y.home(0), 3);
        // TWIST, ACROSS is a turn of all five; with HALF all lays can be reached
        BobbinTalk z = laid("n5;m0,1,0035;");
        z.change(0, 4);
        due("home of 41230", z.home(0), 7);
        due("home of 543210 by ababab", reversed().home(0), 6);
    }

    /** Six bobbins from the last to the first, with a maker of TWIST, ACROSS and two PINS: a way round by twelve lays. */
    private static BobbinTalk reversed() {
        BobbinTalk x = laid("m0,1,1200;");
        x.change(0, 5);
        x.change(1, 4);
        x.change(2, 3);
        due("lies", lies(x), 543210);
        return x;
    }

    private static void ways() {
        promise = "21";
        BobbinTalk x = laid("n2;m0,1,1200;m0,1,0000;");
        // a changes the two, b, c, d leave them: (4^n + 2^n) / 2 rows of sounds bring them back
        due("ways(0, 0)", x.ways(0, 0), 1);
        due("ways(0, 1)", x.ways(0, 1), 3);
        due("ways(0, 2)", x.ways(0, 2), 10);
        due("ways(0, 3)", x.ways(0, 3), 36);
        due("ways(0, 10)", x.ways(0, 10), 524800);
        due("ways(1, 10)", x.ways(1, 10), 1048576);
        x.say(0);
        due("ways(0, 0)", x.ways(0, 0), 0);
        due("ways(0, 1)", x.ways(0, 1), 1);
        due("ways(0, 9)", x.ways(0, 9), 130816);
        due("ways(0, 10)", x.ways(0, 10), 523776);
        due("ways(1, 10)", x.ways(1, 10), 0);
        BobbinTalk y = laid("n3;m0,1,1122;");
        y.say(0);
        y.say(2);
        due("ways(0, 2)", y.ways(0, 2), 4);
        due("ways(0, 3)", y.ways(0, 3), 0);
        // a way round by six lays: 5 of the 16 walks of four steps end two steps on; each step is one of two sounds
        due("ways(0, 4)", y.ways(0, 4), 5 * 16);
        // half round by six steps, this way or that; a PIN of two may stand at seven places between
        BobbinTalk z = reversed();
        due("ways(0, 5) half round", z.ways(0, 5), 0);
        due("ways(0, 6) half round", z.ways(0, 6), 2);
        due("ways(0, 7) half round", z.ways(0, 7), 28);
        due("ways(0, 11)", y.ways(0, 11), BAD);
        due("ways(0, -1)", y.ways(0, -1), BAD);
        due("ways(1, 0)", y.ways(1, 0), BAD);
        due("ways(-1, 0)", y.ways(-1, 0), BAD);
    }

    private static void alike() {
        promise = "22";
        BobbinTalk x = laid("n4;m0,1,1234;m2,1,1234;");
        due("ab as c", x.alike(0, 7, 3), 1);
        due("ba as d", x.alike(0, 11, 4), 1);
        due("ab as d", x.alike(0, 7, 4), 0);
        due("aa as bb", x.alike(0, 6, 12), 1);
        due("a as a", x.alike(0, 1, 1), 1);
        due("a as c, hasty", x.alike(1, 1, 3), 1);
        x.say(0);
        due("ab as c", x.alike(0, 7, 3), 1);
        due("alike(2, 1, 1)", x.alike(2, 1, 1), BAD);
        due("alike(-1, 1, 1)", x.alike(-1, 1, 1), BAD);
        due("alike(0, 0, 1)", x.alike(0, 0, 1), BAD);
        due("alike(0, 1, 5)", x.alike(0, 1, 5), BAD);
        due("alike(0, 1, 390625)", x.alike(0, 1, 390625), BAD);
    }

    private static void deal() {
        promise = "23";
        BobbinTalk x = laid("m0,2,0000;m0,1,0000;o4;o2;o2;");
        // 6 minutes: maker 0 one order of two rows (4 minutes), maker 1 the rest; order 1 ahead of order 2
        due("deal(-1)", x.deal(-1), 6);
        due("deal(0)", x.deal(0), 1);
        due("deal(1)", x.deal(1), 0);
        due("deal(2)", x.deal(2), 1);
        due("deal(3)", x.deal(3), BAD);
        due("deal(-2)", x.deal(-2), BAD);
        BobbinTalk y = laid("m0,9,0000;o60;o60;o60;o60;o60;o60;");
        due("deal(-1) by one", y.deal(-1), 3240);
        due("deal(5) by one", y.deal(5), 0);
        due("deal(6) by one", y.deal(6), BAD);
        BobbinTalk z = laid("m0,3,0000;m0,3,0000;m0,3,0000;m0,3,0000;o5;o5;");
        due("deal(-1) by four alike", z.deal(-1), 15);
        due("deal(0) by four alike", z.deal(0), 0);
        due("deal(1) by four alike", z.deal(1), 1);
        BobbinTalk none = laid("m0,3,0000;");
        due("deal(-1) of none", none.deal(-1), 0);
        due("deal(0) of none", none.deal(0), BAD);
        // maker 0 does all small ones while maker 1 makes the long one: the first such way
        BobbinTalk w = laid("m0,1,0000;m0,1,0000;o1;o1;o1;o9;");
        due("deal(-1)", w.deal(-1), 9);
        due("deal(0)", w.deal(0), 0);
        due("deal(2)", w.deal(2), 0);
        due("deal(3)", w.deal(3), 1);
    }

    private static void see() {
        promise = "24";
        BobbinTalk x = new BobbinTalk();
        due("see(-1)", x.see(-1), BAD);
        due("see(6)", x.see(6), BAD);
        for (int i = 1; i <= 8; i++) {
            due("see", x.see(i % 2 == 0 ? 0 : 5), i);
        }
        due("see(0) of nine", x.see(0), FULL);
        due("see(6) of nine", x.see(6), BAD);
        due("count(6)", x.count(6), 8);
    }

    private static void forget() {
        promise = "25";
        BobbinTalk x = new BobbinTalk();
        due("forget()", x.forget(), 0);
        x.see(1);
        x.see(2);
        due("forget()", x.forget(), 2);
        due("count(6)", x.count(6), 0);
        due("forget()", x.forget(), 0);
        due("see(5)", x.see(5), 1);
        due("who(), of the new ones alone", x.who(), 6);
    }

    private static void who() {
        promise = "26";
        BobbinTalk x = laid("m0,1,1123;m2,1,3000;m1,1,3211;");
        due("who() of nothing", x.who(), 7);
        x.see(3);
        due("who() of 3", x.who(), 7);
        x.see(1);
        due("who() of 3, 1", x.who(), 5);
        x.see(2);
        x.see(0);
        due("who() of 3, 1, 2, 0", x.who(), 0);
        x.forget();
        x.see(0);
        due("who() of 0", x.who(), 2);
        due("who() of one maker", laid("m0,1,0000;").who(), 1);
    }

    private static void said() {
        promise = "27";
        BobbinTalk x = laid("m0,1,2112;m2,1,3000;");
        due("said(0, 0) of nothing", x.said(0, 0), 0);
        due("said(0, 1) of nothing", x.said(0, 1), NONE);
        x.see(1);
        due("said(0, 0)", x.said(0, 0), 2);
        due("said(0, 1) is b", x.said(0, 1), 2);
        due("said(1, 0)", x.said(1, 0), 0);
        due("said(1, 1)", x.said(1, 1), NONE);
        x.see(2);
        x.see(1);
        due("said(0, 0)", x.said(0, 0), 8);
        due("said(0, 1) is bab", x.said(0, 1), (2 * 5 + 1) * 5 + 2);
        due("said(2, 0)", x.said(2, 0), BAD);
        due("said(-1, 0)", x.said(-1, 0), BAD);
        due("said(0, 2)", x.said(0, 2), BAD);
        due("said(0, -1)", x.said(0, -1), BAD);
        x.forget();
        for (int i = 0; i < 8; i++) {
            x.see(0);
        }
        due("said(1, 0) of eight", x.said(1, 0), 6561);
        due("said(1, 1) is bbbbbbbb", x.said(1, 1), 195312);
        BobbinTalk z = laid("m0,1,1234;");
        z.see(4);
        z.see(3);
        due("said(0, 1) is dc", z.said(0, 1), 23);
        BobbinTalk y = laid("m0,1,5555;");
        for (int i = 0; i < 8; i++) {
            y.see(5);
        }
        due("said(0, 0) of eight, all alike", y.said(0, 0), 65536);
        due("said(0, 1) is aaaaaaaa", y.said(0, 1), 97656);
    }

    private static void slip() {
        promise = "28";
        BobbinTalk x = laid("n3;m0,1,1250;m1,1,1250;s012;");
        due("slip(12) of no row", x.slip(12), 16777216);
        due("slip(21) of no row", x.slip(21), 0);
        x.change(0, 2);
        due("slip(210) of no row", x.slip(210), 16777216);
        x.say(0);
        due("slip(120) of one row", x.slip(120), 16777216);
        due("slip(210) of one row", x.slip(210), 1);
        x.say(1);
        // 210, TWIST 120, ACROSS 102; without the first 201, without the second 120
        due("slip(102)", x.slip(102), 16777216);
        due("slip(201)", x.slip(201), 1);
        due("slip(120)", x.slip(120), 2);
        x.change(0, 1);
        x.sit(1);
        due("slip(102), changed", x.slip(102), 16777216);
        x.say(3);
        due("slip(102), a PIN made", x.slip(102), 16777220);
        due("slip(201)", x.slip(201), 1);
        x.say(0);
        // TWIST from the right: 102 to 120; 201 to 210, 120 to 102
        due("slip(120), left-handed", x.slip(120), 16777220);
        due("slip(210), left-handed", x.slip(210), 1);
        due("slip(102), left-handed", x.slip(102), 2 + 8);
        x.cut();
        due("slip, cut off", x.slip(lies(x)), 16777216);
        due("slip(999)", x.slip(999), 0);
        due("slip(1000)", x.slip(1000), BAD);
        due("slip(-1)", x.slip(-1), BAD);
        BobbinTalk y = laid("n2;m0,1,1000;s77;");
        y.say(0);
        y.say(0);
        due("slip(77) of alike", y.slip(77), 16777219);
        due("slip(99)", y.slip(99), 0);
        due("slip(100)", y.slip(100), BAD);
        BobbinTalk z = laid("n6;m0,1,0000;s000000;");
        for (int i = 0; i < 24; i++) {
            z.say(0);
        }
        due("slip(0) of 24", z.slip(0), 33554431);
        due("slip(999999)", z.slip(999999), 0);
        due("slip(1000000)", z.slip(1000000), BAD);
    }

    private static void slips() {
        promise = "29";
        BobbinTalk x = laid("n2;m0,1,1000;");
        // a changes the two, by 7 of ten; aa: both or none, 49 + 9 of 100
        due("slips(0, 1, 3, 0)", x.slips(0, 1, 3, 0), 7);
        due("slips(0, 1, 3, 1)", x.slips(0, 1, 3, 1), 10);
        due("slips(0, 6, 3, 0)", x.slips(0, 6, 3, 0), 29);
        due("slips(0, 6, 3, 1)", x.slips(0, 6, 3, 1), 50);
        due("slips(0, 1, 0, 0)", x.slips(0, 1, 0, 0), 1);
        due("slips(0, 1, 0, 1)", x.slips(0, 1, 0, 1), 1);
        due("slips(0, 1, 10, 0)", x.slips(0, 1, 10, 0), 0);
        due("slips(0, 1, 10, 1)", x.slips(0, 1, 10, 1), 1);
        due("slips(0, 6, 10, 0)", x.slips(0, 6, 10, 0), 1);
        due("slips(0, 2, 4, 0)", x.slips(0, 2, 4, 0), 1);
        due("slips(0, 2, 4, 1)", x.slips(0, 2, 4, 1), 1);
        // eight times a: an even number of slips, (1 + 0.8^8) / 2 = 58388608 of 100000000
        due("slips(0, aaaaaaaa, 1, 0)", x.slips(0, 97656, 1, 0), 456161);
        due("slips(0, aaaaaaaa, 1, 1)", x.slips(0, 97656, 1, 1), 781250);
        BobbinTalk y = laid("n3;m0,1,1200;");
        // ab: only both rows bring it, 9 * 9 of 100; aab: a both or none
        due("slips(0, 7, 1, 0)", y.slips(0, 7, 1, 0), 81);
        due("slips(0, 7, 1, 1)", y.slips(0, 7, 1, 1), 100);
        due("slips(0, 32, 1, 0)", y.slips(0, 32, 1, 0), 369);
        due("slips(0, 32, 1, 1)", y.slips(0, 32, 1, 1), 500);
        due("slips(1, 1, 0, 0)", x.slips(1, 1, 0, 0), BAD);
        due("slips(-1, 1, 0, 0)", x.slips(-1, 1, 0, 0), BAD);
        due("slips(0, 5, 0, 0)", x.slips(0, 5, 0, 0), BAD);
        due("slips(0, 1, 11, 0)", x.slips(0, 1, 11, 0), BAD);
        due("slips(0, 1, -1, 0)", x.slips(0, 1, -1, 0), BAD);
        due("slips(0, 1, 0, 2)", x.slips(0, 1, 0, 2), BAD);
        due("slips(0, 1, 0, -1)", x.slips(0, 1, 0, -1), BAD);
    }

    private static void winter() {
        promise = "30";
        BobbinTalk x = laid("n4;m0,1,1250;m0,1,0001;");
        // draws by 0: 1 is a, by 10: 3008 is a and 8125 unpicks, by 2: 59533 unpicks and 15120 is c
        due("winter(0, 1, 0)", x.winter(0, 1, 0), 1);
        due("winter(0, 1, 1)", x.winter(0, 1, 1), 1);
        due("winter(10, 1, 0)", x.winter(10, 1, 0), 1);
        due("winter(10, 2, 0)", x.winter(10, 2, 0), 0);
        due("winter(10, 2, 1)", x.winter(10, 2, 1), 1);
        due("winter(2, 1, 0), nothing to unpick", x.winter(2, 1, 0), 0);
        due("winter(2, 1, 1)", x.winter(2, 1, 1), 0);
        due("winter(2, 2, 0)", x.winter(2, 2, 0), 1);
        due("winter(2, 2, 1)", x.winter(2, 2, 1), 1);
        // by 30: 59599 sits maker 7449 modulo 2 down, 57499 is d
        due("winter(30, 1, 0)", x.winter(30, 1, 0), 0);
        due("winter(30, 2, 0)", x.winter(30, 2, 0), 1);
        BobbinTalk y = laid("n4;m0,1,0010;");
        due("winter(2, 2, 0) by c alone", y.winter(2, 2, 0), 1);
        due("winter(0, 1, 0) by c alone", y.winter(0, 1, 0), 0);
        x.say(0);
        due("winter(2, 1, 0), unpicked", x.winter(2, 1, 0), 0);
        due("winter(2, 2, 1), unpicked", x.winter(2, 2, 1), 1);
        due("winter(24, 1, 0), cut off", x.winter(24, 1, 0), 1);
        due("count(3), as before", x.count(3), 0);
        due("count(4), as before", x.count(4), 1);
        due("count(7), as before", x.count(7), 1);
        due("lies, as before", lies(x), 1032);
        for (int i = 1; i < 24; i++) {
            x.say(3);
        }
        // by 0: a can't be said; by 24: 1470 cuts it off, 60504 is d
        due("winter(0, 1, 1), full", x.winter(0, 1, 1), 0);
        due("winter(0, 1, 0), full", x.winter(0, 1, 0), 1);
        due("winter(24, 2, 1), full, then cut off", x.winter(24, 2, 1), 1);
        due("winter(10000, 1, 0)", x.winter(10000, 1, 0), BAD);
        due("winter(-1, 1, 0)", x.winter(-1, 1, 0), BAD);
        due("winter(0, 0, 0)", x.winter(0, 0, 0), BAD);
        due("winter(0, 61, 0)", x.winter(0, 61, 0), BAD);
        due("winter(0, 1, 2)", x.winter(0, 1, 2), BAD);
        due("winter(0, 1, -1)", x.winter(0, 1, -1), BAD);
        longWinters();
    }

    /** Winters of all lengths by a maker whose rows are all TWIST: only how many are said tells. */
    private static void longWinters() {
        BobbinTalk x = laid("n2;m0,1,1111;");
        int[] zs = {0, 1, 77, 5000, 9998, 9999};
        for (int z : zs) {
            int rows = 0;
            int lie = 0;
            int all = 0;
            for (int k = 0; k < 60; k++) {
                java.math.BigInteger sum = java.math.BigInteger.valueOf(7919L * z + 6151L * k + 1);
                int what = sum.pow(2).mod(java.math.BigInteger.valueOf(65521)).intValue() % 8;
                if (what < 5 && rows < 24) {
                    rows++;
                    all++;
                    lie = 1 - lie;
                } else if (what == 5 && rows > 0) {
                    rows--;
                    lie = 1 - lie;
                } else if (what == 6) {
                    rows = 0;
                }
                due("winter(" + z + ", " + (k + 1) + ", 0)", x.winter(z, k + 1, 0), lie);
                due("winter(" + z + ", " + (k + 1) + ", 1)", x.winter(z, k + 1, 1), all);
            }
        }
    }

    private static void keep() {
        promise = "31";
        BobbinTalk x = laid("n4;m0,1,1250;");
        due("keep()", x.keep(), 1);
        due("keep()", x.keep(), 2);
        due("keep() of three", x.keep(), FULL);
        due("count(8)", x.count(8), 2);
        due("count(7)", x.count(7), 0);
        due("back()", x.back(), 1);
        due("keep()", x.keep(), 2);
        due("keep() of three", x.keep(), FULL);
    }

    private static void back() {
        promise = "32";
        BobbinTalk x = laid("n4;m0,1,1250;m1,1,5555;");
        due("back()", x.back(), NO);
        x.say(0);
        x.sit(1);
        x.say(3);
        x.keep();
        x.change(1, 3);
        x.cut();
        x.sit(0);
        x.keep();
        x.say(1);
        x.see(4);
        x.write('q');
        due("count(7)", x.count(7), 7);
        due("back()", x.back(), 1);
        due("count(3)", x.count(3), 0);
        due("count(4)", x.count(4), 0);
        due("lies", lies(x), 3021);
        due("undo()", x.undo(), NO);
        due("count(6), seen stays", x.count(6), 1);
        due("count(9), the text stays", x.count(9), 24);
        x.say(0);
        due("count(7)", x.count(7), 1);
        due("back()", x.back(), 0);
        due("count(3)", x.count(3), 1);
        due("count(4)", x.count(4), 2);
        due("count(7)", x.count(7), 0);
        due("made(1, 0)", x.made(1, 0), 5);
        due("made(1, 1)", x.made(1, 1), 1);
        due("lies", lies(x), 1023);
        due("unpick()", x.unpick(), 1);
        due("lies", lies(x), 1032);
        due("back()", x.back(), NO);
        due("count(7)", x.count(7), 1);
    }

    private static void count() {
        promise = "33";
        BobbinTalk x = laid("n5;m0,1,1250;m1,1,5555;o3;o4;o5;");
        x.say(0);
        x.sit(1);
        x.see(4);
        x.see(4);
        x.keep();
        int[] counts = {5, 2, 3, 1, 1, 1, 2, 2, 1, 32};
        for (int what = 0; what < counts.length; what++) {
            due("count(" + what + ")", x.count(what), counts[what]);
        }
        due("count(10)", x.count(10), BAD);
        due("count(-1)", x.count(-1), BAD);
        for (int i = 0; i < 9; i++) {
            x.sit(0);
        }
        due("count(7), the last 8", x.count(7), 8);
    }

    private static void wrongCallsChangeNothing() {
        promise = "2 to 33, wrong calls";
        BobbinTalk x = laid("n4;m0,1,1250;m1,1,5555;o3;");
        x.say(0);
        x.see(4);
        x.write(200);
        x.say(4);
        x.sit(2);
        x.change(0, 4);
        x.change(2, 2);
        x.see(7);
        x.made(-1, 0);
        x.winter(0, 60, 0);
        x.winter(0, 61, 0);
        x.slips(0, 1, 5, 0);
        x.slip(3);
        x.home(0);
        x.ways(0, 10);
        x.brings(0, 0, 3);
        x.behind(0, 7, 0);
        x.round(0, 7);
        x.alike(0, 7, 11);
        x.deal(-1);
        x.who();
        x.said(0, 0);
        x.fault();
        x.back();
        int[] counts = {4, 2, 1, 0, 1, 0, 1, 1, 0, 26};
        for (int what = 0; what < counts.length; what++) {
            due("count(" + what + ")", x.count(what), counts[what]);
        }
        due("lies", lies(x), 1032);
        due("order(0)", x.order(0), 3);
        due("maker(1, 5)", x.maker(1, 5), 5);
    }
}
