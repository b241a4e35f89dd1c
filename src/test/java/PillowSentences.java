/** Part 1 of the terms and promises 1 to 10: THE TEXT, what is laid by it, and what is told of that. */
public final class PillowSentences extends Sentences {
    private static final String AT_FIRST = "n6;m0,3,1234;m1,2,2154;m2,1,1523;m3,5,1230;o12;o7;o20;o5;s335170;";

    public static void main(String[] args) throws Exception {
        runAll(PillowSentences.class);
    }

    // ---- the terms

    private static String of200Letters() {
        StringBuilder letters = new StringBuilder();
        for (int i = 0; i < 62; i++) {
            letters.append("n5;");
        }
        return letters.append("m0,1,1234;o12;").toString();
    }

    static void textOf200LettersIsAll() {
        sentence("Terms 1", "A TEXT is letters (200 at most),");
        String letters = of200Letters();
        BobbinTalk x = new BobbinTalk();
        for (int i = 0; i < 200; i++) {
            due("write of letter " + i, x.write(letters.charAt(i)), i + 1);
        }
        due("fault() of 200 letters", x.fault(), NONE);
        due("write of a 201st letter", x.write(';'), FULL);
        due("count(9)", x.count(9), 200);
        due("fault() of 200 letters, still", x.fault(), NONE);
        due("lay() of 200 letters", x.lay(), 5);
        due("order(0), the last item", x.order(0), 12);
    }

    static void textOf199LettersWantsTheLast() {
        sentence("Terms 1", "A TEXT is letters (200 at most),");
        BobbinTalk x = new BobbinTalk();
        write(x, of200Letters().substring(0, 199));
        due("fault() of 199 letters", x.fault(), 196);
        due("lay() of 199 letters", x.lay(), NO);
        due("write of the 200th", x.write(';'), 200);
        due("fault() of 200 letters", x.fault(), NONE);
        due("lay() of 200 letters", x.lay(), 5);
    }

    static void textPast200LettersIsWithoutThem() {
        sentence("Terms 1", "A TEXT is letters (200 at most),");
        BobbinTalk x = new BobbinTalk();
        write(x, of200Letters() + "n9;");
        due("fault() of 200 letters, three refused", x.fault(), NONE);
        due("lay() of 200 letters, three refused", x.lay(), 5);
    }

    static void itemIsLetterFieldsAndSemicolon() {
        sentence("Terms 1", "ITEMS one behind the other, each a letter, then what it tells, parted by , and a ; behind it");
        noFault("", "n5;", "m0,1,1234;", "o5;", "s012345;", "o1;o2;s012345;m0,1,1234;o3;");
        faultAt(0, ";", "5;", ",", "n", "n5", "n5,", "n5,;", "n,5;", "n5:", "m0,1,1234", "m01,1234;", "m0,11234;", "m0;1;1234;",
            "m0,1,1234,;", "m0,,1,1234;", "m,0,1,1234;", "m0,1;", "m0;", "m;", "m0.1.1234;", "o5", "o5,;", "o,5;", "s012345", "s012345,;",
            "s,012345;", "s;", "p5;", "p;", "x;", ";;", " ;", "N5;", "M0,1,1234;", "O5;", "S012345;", " n5;", "n 5;", "n5 ;");
        faultAt(3, "n5;;", "n5;;;", "n5;x;", "n5; ", "n5; o5;", "n5;o5", "n5;o5m0,1,1234;", "n5;5;");
        faultAt(6, "n5;o5;o", "n5;o5;;", "o1;o2;x");
    }

    static void itemWithoutItsLastLetters() {
        sentence("Terms 1", "ITEMS one behind the other, each a letter, then what it tells, parted by , and a ; behind it");
        int[] starts = {0, 3, 13, 17};
        String letters = "n4;m0,1,1234;o60;s0123;";
        for (int length = 0; length <= letters.length(); length++) {
            int last = 0;
            for (int start : starts) {
                last = start < length ? start : last;
            }
            boolean whole = length == 0 || letters.charAt(length - 1) == ';';
            due("fault() of the first " + length, faultOf(letters.substring(0, length)), whole ? NONE : last);
        }
    }

    static void numberOfOneOrTwoFigures() {
        sentence("Terms 1", "(numbers: one or two figures;");
        noFault("n5;", "n05;", "o7;", "o07;", "o17;", "m0,1,1234;", "m00,1,1234;", "m0,01,1234;", "m03,09,1234;");
        faultAt(0, "n;", "n005;", "n055;", "o;", "o007;", "o012;", "o100;", "m,1,1234;", "m000,1,1234;", "m0,,1234;", "m0,001,1234;",
            "n-5;", "n+5;", "n5a;", "na;", "o0x;", "o1 ;", "o 1;");
        // the letters next to 0 and 9
        faultAt(0, "n5/;", "n/5;", "o:;", "o5:;", "o:5;", "o1/;", "o/9;", "m/,1,1234;", "m0,/9,1234;", "m0,0:,1234;", "m0:,1,1234;",
            "m1/,1,1234;", "m0,1/,1234;");
        due("n05; is five", laid("n05;m0,1,1234;").count(0), 5);
        due("o07; is seven", laid("m0,1,1234;o07;").order(0), 7);
        BobbinTalk x = laid("m03,09,1234;");
        due("m03 is three", x.maker(0, 0), 3);
        due("09 is nine", x.maker(0, 1), 9);
    }

    static void rowOfSingleFigures() {
        sentence("Terms 1", "a row: single figures, one next to the other):");
        faultAt(0, "m0,1,000/;", "m0,1,/000;", "m0,1,1,2,3,4;", "m0,1,1 234;", "m0,1,12a4;", "m0,1,12;34;", "s0,1,2,3,4,5;", "s01234:;", "s01234 5;", "s0123/5;");
        noFault("m0,1,0505;", "s090909;");
    }

    static void bobbins2To6() {
        sentence("Terms 1", "nN there are N (2 to 6) BOBBINS");
        faultAt(0, "n0;", "n1;", "n7;", "n8;", "n9;", "n00;", "n01;", "n07;", "n10;", "n12;", "n16;", "n20;", "n26;", "n60;", "n99;");
        for (int n = 2; n <= 6; n++) {
            due("lay() of n" + n, laid("n" + n + ";m0,1,1234;").count(0), n);
            due("lay() of n0" + n, laid("n0" + n + ";m0,1,1234;").count(0), n);
        }
    }

    static void bobbinsAre6Without() {
        sentence("Terms 1", "(6 without;");
        BobbinTalk x = new BobbinTalk();
        write(x, "n2;m0,1,1234;");
        due("lay() with n2", x.lay(), 2);
        x.wipe();
        write(x, "m0,1,1234;s012345;");
        due("fault() of a row of six without n", x.fault(), NONE);
        due("lay() without n", x.lay(), 6);
        due("at(5)", x.at(5), 5);
        x.wipe();
        write(x, "n3;s012;");
        due("fault() with n3", x.fault(), NONE);
        x.wipe();
        write(x, "s012345;");
        due("fault() without n, behind one with n3", x.fault(), NONE);
        x.wipe();
        write(x, "n4;m0,1,1234;");
        due("lay() with n4", x.lay(), 4);
        for (int i = 0; i < 3; i++) {
            x.wipe();
            write(x, "m0,1,1234;");
            due("lay() without n, once more", x.lay(), 6);
        }
        faultAt(0, "s01234;", "s0123456;");
    }

    static void nHasOnlyNAhead() {
        sentence("Terms 1", "no other ITEM ahead of it but n;");
        noFault("n2;n6;", "n2;n3;n4;n5;n6;m0,1,1234;");
        faultAt(10, "m0,1,1234;n6;", "m0,1,1234;n6;o5;");
        faultAt(3, "o9;n6;", "o9;n9;");
        faultAt(8, "s012345;n6;");
        faultAt(13, "n5;m0,1,1234;n5;");
        faultAt(6, "n6;o1;n6;");
        faultAt(11, "n6;s012345;n6;");
    }

    static void lastNCounts() {
        sentence("Terms 1", "of several the last one counts)");
        due("n2;n5;", laid("n2;n5;m0,1,1234;").count(0), 5);
        due("n6;n2;", laid("n6;n2;m0,1,1234;").count(0), 2);
        due("n2;n6;n3;", laid("n2;n6;n3;m0,1,1234;s012;").count(0), 3);
        faultAt(6, "n2;n3;s01;", "n2;n3;s0123;", "n6;n2;s012345;");
        faultAt(0, "n7;n6;");
        faultAt(3, "n6;n7;");
    }

    static void kinds0To3() {
        sentence("Terms 1", "mK,P,R a MAKER of KIND K (0 PLAIN, 1 LEFT-HANDED, 2 HASTY, 3 CAREFUL),");
        for (int kind = 0; kind <= 3; kind++) {
            due("maker(0, 0) of m" + kind, laid("m" + kind + ",1,1234;").maker(0, 0), kind);
        }
        faultAt(0, "m4,1,1234;", "m5,1,1234;", "m9,1,1234;", "m04,1,1234;", "m10,1,1234;", "m13,1,1234;", "m30,1,1234;", "m99,1,1234;",
            "m-1,1,1234;");
        noFault("m00,1,1234;m01,1,1234;m02,1,1234;m03,1,1234;");
    }

    static void minutes1To9() {
        sentence("Terms 1", "who takes P (1 to 9) minutes for a ROW,");
        for (int pace = 1; pace <= 9; pace++) {
            due("maker(0, 1) of pace " + pace, laid("m0," + pace + ",1234;").maker(0, 1), pace);
        }
        faultAt(0, "m0,0,1234;", "m0,00,1234;", "m0,10,1234;", "m0,11,1234;", "m0,19,1234;", "m0,90,1234;", "m0,99,1234;");
        noFault("m0,01,1234;", "m0,09,1234;");
    }

    static void rowsOfFourSounds0To5() {
        sentence("Terms 1", "and for whom SOUNDS a, b, c, d are ROWS R (a row of four, 0 to 5 each);");
        for (int row = 0; row <= 5; row++) {
            for (int sound = 0; sound < 4; sound++) {
                StringBuilder rows = new StringBuilder(row == 0 ? "1111" : "0000");
                rows.setCharAt(sound, (char) ('0' + row));
                due("maker(0, " + (2 + sound) + ") of " + rows, laid("m0,1," + rows + ";").maker(0, 2 + sound), row);
            }
        }
        faultAt(0, "m0,1,;", "m0,1,1;", "m0,1,123;", "m0,1,12345;", "m0,1,6000;", "m0,1,0600;", "m0,1,0060;", "m0,1,0006;", "m0,1,9999;");
        noFault("m0,1,0000;", "m0,1,5555;");
    }

    static void fourMakersAtMost() {
        sentence("Terms 1", "4 at most, 0, 1, ..");
        String letters = "";
        for (int m = 0; m < 4; m++) {
            letters += "m" + m + "," + (m + 5) + "," + m + "000;";
            BobbinTalk x = laid(letters);
            due("count(1) of " + (m + 1) + " makers", x.count(1), m + 1);
            for (int i = 0; i <= m; i++) {
                due("maker(" + i + ", 1)", x.maker(i, 1), i + 5);
                due("maker(" + i + ", 2)", x.maker(i, 2), i);
            }
            due("maker(" + (m + 1) + ", 0)", x.maker(m + 1, 0), BAD);
        }
        faultAt(40, letters + "m0,1,1234;", letters + "m0,1,1234;o5;", letters + "m;", letters + "m");
        faultAt(44, "o60;" + letters + "m0,1,1234;");
        noFault(letters + "o5;s012345;");
    }

    static void ordersOf1To60() {
        sentence("Terms 1", "oL an ORDER of L (1 to 60) ROWS;");
        faultAt(0, "o0;", "o00;", "o61;", "o62;", "o70;", "o99;", "o060;", "o100;");
        due("order(0) of o1", laid("m0,1,1234;o1;").order(0), 1);
        due("order(0) of o01", laid("m0,1,1234;o01;").order(0), 1);
        due("order(0) of o59", laid("m0,1,1234;o59;").order(0), 59);
        due("order(0) of o60", laid("m0,1,1234;o60;").order(0), 60);
    }

    static void sixOrdersAtMost() {
        sentence("Terms 1", "6 at most, 0, 1, ..");
        String letters = "m0,1,1234;";
        due("count(2) of no order", laid(letters).count(2), 0);
        for (int k = 0; k < 6; k++) {
            letters += "o" + (60 - k) + ";";
            BobbinTalk x = laid(letters);
            due("count(2) of " + (k + 1), x.count(2), k + 1);
            for (int i = 0; i <= k; i++) {
                due("order(" + i + ")", x.order(i), 60 - i);
            }
            due("order(" + (k + 1) + ")", x.order(k + 1), BAD);
        }
        faultAt(34, letters + "o1;", letters + "o1;o2;", letters + "o;", letters + "o");
        faultAt(18, "o1;o1;o1;o1;o1;o1;o1;");
        noFault(letters + "s012345;");
    }

    static void spanglesOfAsManyAsBobbins() {
        sentence("Terms 1", "sS SPANGLES S (a row of as many as there are BOBBINS, 0 to 9 each) hang on BOBBINS 0, 1, ..");
        String figures = "9081726";
        for (int n = 2; n <= 6; n++) {
            String ahead = "n" + n + ";m0,1,1234;s";
            faultAt(13, ahead + figures.substring(0, n - 1) + ";", ahead + figures.substring(0, n + 1) + ";", ahead + ";");
            BobbinTalk x = laid(ahead + figures.substring(0, n) + ";");
            for (int b = 0; b < n; b++) {
                due("bobbin(" + b + ", 1) of " + n, x.bobbin(b, 1), figures.charAt(b) - '0');
            }
        }
        noFault("s000000;", "s999999;");
        faultAt(0, "s00000:;", "s/00000;", "s-00000;");
    }

    static void spanglesWithout() {
        sentence("Terms 1", "(0, 1, .. without;");
        BobbinTalk x = laid("n6;m0,1,1234;s987654;");
        x.wipe();
        write(x, "n6;m0,1,1234;");
        x.lay();
        for (int b = 0; b < 6; b++) {
            due("bobbin(" + b + ", 1) without s", x.bobbin(b, 1), b);
        }
        BobbinTalk two = laid("n2;m0,1,1234;");
        due("bobbin(0, 1) of two", two.bobbin(0, 1), 0);
        due("bobbin(1, 1) of two", two.bobbin(1, 1), 1);
    }

    static void lastSpanglesCount() {
        sentence("Terms 1", "of several such the last one counts)");
        BobbinTalk x = laid("n3;s123;m0,1,1234;s907;o5;s456;");
        due("spangles, the last s", x.bobbin(0, 1) * 100 + x.bobbin(1, 1) * 10 + x.bobbin(2, 1), 456);
        faultAt(8, "n3;s123;s12;");
        faultAt(3, "n3;s12;s123;");
    }

    static void faultIsTheFirstItemsPlace() {
        sentence("Terms 1", "FAULT: the place (from 0 on) of the first letter of the first ITEM that is not so.");
        noFault("", AT_FIRST);
        faultAt(0, "x", "n1;o61;", "o61;o1;");
        faultAt(3, "n6;o61;o1;", "o1;o61;o61;x", "n6;m0,1,123");
        faultAt(196, of200Letters().substring(0, 196) + "o61;");
        faultAt(199, of200Letters().substring(0, 196) + "o1;x");
        BobbinTalk x = new BobbinTalk();
        write(x, "o5;o");
        due("fault() of a begun item", x.fault(), 3);
        write(x, "7");
        due("fault() of it going on", x.fault(), 3);
        write(x, ";");
        due("fault() of it ended", x.fault(), NONE);
        write(x, ";");
        due("fault() of one more", x.fault(), 6);
    }

    static void laidOnlyWithoutFault() {
        sentence("Terms 1", "LAID is a TEXT without FAULT, of a MAKER at least (NO else;");
        for (String letters : new String[] {"m0,1,1234", "m0,1,1234;x", "m0,1,1234;o61;", "m0,1,1234;n6;", "n1;m0,1,1234;",
            "m0,1,1234;m0,1,1234;m0,1,1234;m0,1,1234;m0,1,1234;"}) {
            refused(laying("n2;m1,2,5555;o3;"), NO, "lay() behind " + letters, y -> {
                write(y, letters);
                int answer = y.lay();
                y.wipe();
                write(y, "n2;m1,2,5555;o3;");
                return answer;
            });
        }
    }

    static void laidOnlyOfAMakerAtLeast() {
        sentence("Terms 1", "LAID is a TEXT without FAULT, of a MAKER at least (NO else;");
        for (String letters : new String[] {"", "n3;", "o5;", "s012345;", "n3;o5;s012;"}) {
            BobbinTalk x = new BobbinTalk();
            write(x, letters);
            due("fault() of " + letters, x.fault(), NONE);
            due("lay() of " + letters, x.lay(), NO);
            due("count(0), as at first", x.count(0), 6);
            due("count(1), as at first", x.count(1), 4);
            due("count(2), as at first", x.count(2), 4);
            due("bobbin(0, 1), as at first", x.bobbin(0, 1), 3);
            due("order(0), as at first", x.order(0), 12);
        }
        due("lay() of one maker", laid("m0,1,1234;").count(1), 1);
    }

    static void laidAtFirst() {
        sentence("Terms 1", "at first n6;m0,3,1234;m1,2,2154;m2,1,1523;m3,5,1230;o12;o7;o20;o5;s335170;).");
        BobbinTalk x = new BobbinTalk();
        BobbinTalk y = laid(AT_FIRST);
        y.wipe();
        for (int what = -1; what <= 10; what++) {
            due("count(" + what + ") of a new object", x.count(what), y.count(what));
        }
        for (int i = -1; i <= 6; i++) {
            for (int what = -1; what <= 6; what++) {
                due("maker(" + i + ", " + what + ") of a new object", x.maker(i, what), y.maker(i, what));
            }
            due("order(" + i + ") of a new object", x.order(i), y.order(i));
            due("bobbin(" + i + ", 1) of a new object", x.bobbin(i, 1), y.bobbin(i, 1));
            due("at(" + i + ") of a new object", x.at(i), y.at(i));
        }
    }

    // ---- promise 1

    static void newObjectAsTold() {
        sentence("Promise 1", "As told; THE TEXT is empty.");
        BobbinTalk x = new BobbinTalk();
        int[][] makers = {{0, 3, 1, 2, 3, 4}, {1, 2, 2, 1, 5, 4}, {2, 1, 1, 5, 2, 3}, {3, 5, 1, 2, 3, 0}};
        int[] orders = {12, 7, 20, 5};
        int[] spangles = {3, 3, 5, 1, 7, 0};
        int[] counts = {6, 4, 4, 0, 0, 6, 0, 0, 0, 0};
        for (int m = 0; m < 4; m++) {
            for (int what = 0; what < 6; what++) {
                due("maker(" + m + ", " + what + ")", x.maker(m, what), makers[m][what]);
            }
            due("order(" + m + ")", x.order(m), orders[m]);
        }
        for (int b = 0; b < 6; b++) {
            due("bobbin(" + b + ", 0)", x.bobbin(b, 0), b);
            due("bobbin(" + b + ", 1)", x.bobbin(b, 1), spangles[b]);
            due("at(" + b + ")", x.at(b), b);
        }
        for (int what = 0; what < 10; what++) {
            due("count(" + what + ")", x.count(what), counts[what]);
        }
    }

    static void newObjectMakesRowsOfEachMaker() {
        sentence("Promise 1", "As told; THE TEXT is empty.");
        BobbinTalk x = new BobbinTalk();
        // TWIST, ACROSS; HALF from the right; TWIST for 3; TWIST, ACROSS, TWIST, ACROSS
        due("behind c by 0", liesBehind(x, 0, 3), 130524);
        due("behind c by 1", liesBehind(x, 1, 3), 12354);
        due("behind d by 2", liesBehind(x, 2, 4), 103254);
        due("behind c by 3", liesBehind(x, 3, 3), 351402);
        due("say(3)", x.say(3), 4);
        due("lies", lies(x), 204153);
    }

    static void newObjectIsEmpty() {
        sentence("Promise 1", "As told; THE TEXT is empty.");
        BobbinTalk x = new BobbinTalk();
        due("wipe()", x.wipe(), 0);
        due("fault()", x.fault(), NONE);
        due("lay()", x.lay(), NO);
        due("undo()", x.undo(), NO);
        due("back()", x.back(), NO);
        due("unpick()", x.unpick(), NO);
        due("forget()", x.forget(), 0);
        due("made(0, 0)", x.made(0, 0), NONE);
        due("cut()", x.cut(), 0);
        due("write('m')", x.write('m'), 1);
    }

    static void objectsAreApart() {
        sentence("Promise 1", "As told; THE TEXT is empty.");
        BobbinTalk x = madeBy(BUSY);
        BobbinTalk y = new BobbinTalk();
        due("count(0) of another object", y.count(0), 6);
        due("maker(1, 2) of another object", y.maker(1, 2), 2);
        due("count(4) of another object", y.count(4), 0);
        due("count(4)", x.count(4), 2);
    }

    // ---- promise 2

    static void letters32To126() {
        sentence("Promise 2", "A letter (32 to 126, as in ASCII) comes behind THE TEXT: how long it is.");
        BobbinTalk x = new BobbinTalk();
        for (int letter = 32; letter <= 126; letter++) {
            due("write(" + letter + ")", x.write(letter), letter - 31);
        }
        due("count(9)", x.count(9), 95);
    }

    static void lettersBelow32AndAbove126() {
        sentence("Promise 2", "BAD; FULL.");
        for (int letter : new int[] {31, 127, 0, -1, 10, 128, 32 + 256, 126 + 65536, LOWEST, HIGHEST}) {
            refused(BUSY, BAD, "write(" + letter + ")", x -> x.write(letter));
        }
    }

    static void letterBehind200() {
        sentence("Promise 2", "BAD; FULL.");
        Calls full = x -> write(x, of200Letters());
        refused(full, FULL, "write(32) of 201", x -> x.write(32));
        refused(full, FULL, "write(126) of 201", x -> x.write(126));
        refused(full, BAD, "write(31) of 201", x -> x.write(31));
        refused(full, BAD, "write(127) of 201", x -> x.write(127));
        refused(full, FULL, "write(110), twice", x -> Math.max(x.write(110), x.write(110)));
        BobbinTalk x = madeBy(full);
        due("wipe()", x.wipe(), 200);
        due("write('n') behind wipe()", x.write('n'), 1);
    }

    // ---- promise 3

    static void wipeTellsHowLongItWas() {
        sentence("Promise 3", "THE TEXT is empty: how long it was.");
        BobbinTalk x = new BobbinTalk();
        due("wipe() of nothing", x.wipe(), 0);
        x.write('x');
        due("fault() of x", x.fault(), 0);
        due("wipe() of one", x.wipe(), 1);
        due("wipe(), twice", x.wipe(), 0);
        due("fault() of nothing", x.fault(), NONE);
        due("count(9)", x.count(9), 0);
        write(x, of200Letters());
        due("wipe() of 200", x.wipe(), 200);
        due("count(9)", x.count(9), 0);
    }

    static void wipedLettersAreToldNoMore() {
        sentence("Promise 3", "THE TEXT is empty: how long it was.");
        BobbinTalk x = new BobbinTalk();
        write(x, "n5;m0,1,1234;");
        x.wipe();
        write(x, "n5");
        due("fault(), the ; wiped out", x.fault(), 0);
        write(x, ";");
        due("lay(), the maker wiped out", x.lay(), NO);
        due("wipe()", x.wipe(), 3);
        answersAndChangesNothing(laying("n2;m0,1,1000;"), 13, "wipe(), the same letters written again", y -> {
            int were = y.wipe();
            write(y, "n2;m0,1,1000;");
            return were;
        });
    }

    // ---- promise 4

    static void faultAndNone() {
        sentence("Promise 4", "FAULT. NONE.");
        answersAndChangesNothing(BUSY, NONE, "fault() of a fine text", BobbinTalk::fault);
        answersAndChangesNothing(x -> {
            BUSY.on(x);
            write(x, "o61;");
        }, 16, "fault() of one with a fault", BobbinTalk::fault);
        answersAndChangesNothing(x -> {
        }, NONE, "fault() of no letters", BobbinTalk::fault);
        BobbinTalk x = madeBy(BUSY);
        due("fault()", x.fault(), NONE);
        due("fault(), twice", x.fault(), NONE);
    }

    static void faultOfATextNotLaid() {
        sentence("Promise 4", "FAULT. NONE.");
        BobbinTalk x = laid("n4;m0,1,1234;m1,2,0555;o9;s9876;");
        x.wipe();
        write(x, "n3;m3,9,5432;o7;s111;o0;");
        due("fault()", x.fault(), 21);
        due("count(0), as laid", x.count(0), 4);
        due("count(1), as laid", x.count(1), 2);
        due("maker(0, 0), as laid", x.maker(0, 0), 0);
        due("maker(0, 2), as laid", x.maker(0, 2), 1);
        due("order(0), as laid", x.order(0), 9);
        due("bobbin(0, 1), as laid", x.bobbin(0, 1), 9);
        due("say(0)", x.say(0), 1);
        due("lies", lies(x), 1032);
    }

    // ---- promise 5

    static void layTellsHowManyBobbins() {
        sentence("Promise 5", "LAID: how many BOBBINS;");
        BobbinTalk x = new BobbinTalk();
        for (int n = 2; n <= 6; n++) {
            x.wipe();
            write(x, "n" + n + ";m0,1,1234;");
            due("lay() of " + n, x.lay(), n);
            due("count(0)", x.count(0), n);
            due("at(" + (n - 1) + ")", x.at(n - 1), n - 1);
            due("at(" + n + ")", x.at(n), BAD);
        }
    }

    static void layMakesAllNew() {
        sentence("Promise 5", "LAID: how many BOBBINS;");
        BobbinTalk x = madeBy(BUSY);
        due("lay()", x.lay(), 3);
        int[] counts = {3, 1, 1, 0, 0, 3, 0, 0, 0, 16};
        for (int what = 0; what < counts.length; what++) {
            due("count(" + what + ")", x.count(what), counts[what]);
        }
        due("lies", lies(x), 12);
        due("maker(0, 0)", x.maker(0, 0), 2);
        due("maker(0, 1)", x.maker(0, 1), 9);
        due("maker(0, 5)", x.maker(0, 5), 3);
        due("maker(1, 0), of the text ahead", x.maker(1, 0), BAD);
        due("order(0)", x.order(0), 7);
        due("order(1), of the text ahead", x.order(1), BAD);
        due("bobbin(0, 1), without s", x.bobbin(0, 1), 0);
        due("say(1), hasty", x.say(1), 1);
        due("lies", lies(x), 102);
    }

    static void layOfTheSameTextTwice() {
        sentence("Promise 5", "LAID: how many BOBBINS;");
        BobbinTalk x = laid("n4;m0,1,1234;m1,1,5555;");
        x.sit(1);
        x.say(0);
        due("lay(), once more", x.lay(), 4);
        due("lies", lies(x), 123);
        due("count(3)", x.count(3), 0);
        due("count(4)", x.count(4), 0);
        due("say(0)", x.say(0), 1);
    }

    static void layEndsSeenUndoneKept() {
        sentence("Promise 5", "nothing SEEN, UNDONE, KEPT;");
        BobbinTalk x = madeBy(BUSY);
        x.keep();
        due("count(6)", x.count(6), 2);
        due("count(7)", x.count(7), 4);
        due("count(8)", x.count(8), 2);
        x.lay();
        due("count(6)", x.count(6), 0);
        due("count(7)", x.count(7), 0);
        due("count(8)", x.count(8), 0);
        due("undo()", x.undo(), NO);
        due("back()", x.back(), NO);
        due("said(0, 0)", x.said(0, 0), 0);
        due("forget()", x.forget(), 0);
        due("keep()", x.keep(), 1);
        due("keep()", x.keep(), 2);
        due("see(0)", x.see(0), 1);
    }

    static void layLeavesTheText() {
        sentence("Promise 5", "THE TEXT stays.");
        BobbinTalk x = laid("n4;m0,1,1234;");
        due("count(9)", x.count(9), 13);
        due("fault()", x.fault(), NONE);
        write(x, "o5;");
        due("lay(), the text going on", x.lay(), 4);
        due("order(0)", x.order(0), 5);
        write(x, "x");
        due("fault(), the text going on", x.fault(), 16);
    }

    static void layRefused() {
        sentence("Promise 5", "NO.");
        refused(x -> {
            BUSY.on(x);
            write(x, "x");
        }, NO, "lay() with a fault", BobbinTalk::lay);
        refused(x -> {
            BUSY.on(x);
            x.wipe();
        }, NO, "lay() of nothing", BobbinTalk::lay);
        refused(x -> {
            BUSY.on(x);
            x.wipe();
            write(x, "n3;o5;s012;");
        }, NO, "lay() without a maker", BobbinTalk::lay);
    }

    // ---- promises 6 to 10

    static void makerOfEachWhat() {
        sentence("Promise 6", "Of a MAKER: KIND (what = 0), P (1), the ROW of SOUND a to d (2 to 5). BAD.");
        BobbinTalk x = laid("m3,9,0512;m1,4,5043;");
        int[][] want = {{3, 9, 0, 5, 1, 2}, {1, 4, 5, 0, 4, 3}};
        for (int m = 0; m < 2; m++) {
            for (int what = 0; what < 6; what++) {
                due("maker(" + m + ", " + what + ")", x.maker(m, what), want[m][what]);
            }
        }
    }

    static void makerRefused() {
        sentence("Promise 6", "Of a MAKER: KIND (what = 0), P (1), the ROW of SOUND a to d (2 to 5). BAD.");
        int[][] wrong = {{-1, 0}, {2, 0}, {2, 5}, {4, 0}, {0, -1}, {0, 6}, {1, 6}, {1, -1}, {2, 6}, {LOWEST, 0}, {HIGHEST, 0},
            {0, LOWEST}, {0, HIGHEST}};
        for (int[] w : wrong) {
            refused(BUSY, BAD, "maker(" + w[0] + ", " + w[1] + ")", x -> x.maker(w[0], w[1]));
        }
    }

    static void orderOfEachNumber() {
        sentence("Promise 7", "Of an ORDER: how many ROWS. BAD.");
        BobbinTalk x = laid("m0,1,0000;o1;o60;o33;o2;o59;o3;");
        int[] want = {1, 60, 33, 2, 59, 3};
        for (int k = 0; k < 6; k++) {
            due("order(" + k + ")", x.order(k), want[k]);
        }
        due("order(6)", x.order(6), BAD);
        due("order(0) of none", laid("m0,1,0000;").order(0), BAD);
        for (int k : new int[] {-1, 2, LOWEST, HIGHEST}) {
            refused(BUSY, BAD, "order(" + k + ")", y -> y.order(k));
        }
    }

    static void bobbinOfEachWhat() {
        sentence("Promise 8", "At which place a BOBBIN lies (what = 0), its SPANGLE (1). BAD.");
        BobbinTalk x = laid("n5;m0,1,3000;s90817;");
        x.say(0);
        // 13042
        int[] places = {2, 0, 4, 1, 3};
        int[] spangles = {9, 0, 8, 1, 7};
        for (int b = 0; b < 5; b++) {
            due("bobbin(" + b + ", 0)", x.bobbin(b, 0), places[b]);
            due("bobbin(" + b + ", 1)", x.bobbin(b, 1), spangles[b]);
        }
    }

    static void bobbinRefused() {
        sentence("Promise 8", "At which place a BOBBIN lies (what = 0), its SPANGLE (1). BAD.");
        int[][] wrong = {{-1, 0}, {4, 0}, {4, 1}, {5, 0}, {0, -1}, {3, 2}, {4, 2}, {LOWEST, 0}, {HIGHEST, 1}, {0, LOWEST}, {0, HIGHEST}};
        for (int[] w : wrong) {
            refused(BUSY, BAD, "bobbin(" + w[0] + ", " + w[1] + ")", x -> x.bobbin(w[0], w[1]));
        }
        for (int n = 2; n <= 6; n++) {
            BobbinTalk x = laid("n" + n + ";m0,1,0000;");
            due("bobbin(" + (n - 1) + ", 0) of " + n, x.bobbin(n - 1, 0), n - 1);
            due("bobbin(" + n + ", 0) of " + n, x.bobbin(n, 0), BAD);
            due("bobbin(" + n + ", 1) of " + n, x.bobbin(n, 1), BAD);
        }
    }

    static void atEachPlace() {
        sentence("Promise 9", "Which BOBBIN lies at a place. BAD.");
        BobbinTalk x = laid("n3;m0,1,3333;");
        x.say(0);
        due("at(0)", x.at(0), 1);
        due("at(1)", x.at(1), 2);
        due("at(2)", x.at(2), 0);
        for (int n = 2; n <= 6; n++) {
            BobbinTalk y = laid("n" + n + ";m0,1,0000;");
            due("at(" + (n - 1) + ") of " + n, y.at(n - 1), n - 1);
            due("at(" + n + ") of " + n, y.at(n), BAD);
        }
        for (int place : new int[] {-1, 4, 5, 6, LOWEST, HIGHEST}) {
            refused(BUSY, BAD, "at(" + place + ")", y -> y.at(place));
        }
    }

    static void madeTellsRowAndWhose() {
        sentence("Promise 10", "Of the k-th ROW MADE (0 first): the ROW (what = 0), whose (1).");
        BobbinTalk x = laid("n4;m0,1,0134;m2,1,2543;m1,1,5555;m3,1,0000;");
        int[][] said = {{0, 2, 3}, {1, 0, 2}, {2, 3, 5}, {3, 1, 0}, {1, 2, 4}, {0, 0, 0}};
        for (int[] one : said) {
            x.sit(one[0]);
            x.say(one[1]);
        }
        for (int k = 0; k < said.length; k++) {
            due("made(" + k + ", 0)", x.made(k, 0), said[k][2]);
            due("made(" + k + ", 1)", x.made(k, 1), said[k][0]);
        }
    }

    static void madeNoneBehindTheLast() {
        sentence("Promise 10", "NONE: there are not so many;");
        BobbinTalk x = laid("n4;m0,1,1234;");
        for (int many = 0; many <= 24; many++) {
            due("made(" + many + ", 0) of " + many, x.made(many, 0), NONE);
            due("made(" + many + ", 1) of " + many, x.made(many, 1), NONE);
            x.say(many % 4);
            if (many < 24) {
                due("made(" + many + ", 0) of " + (many + 1), x.made(many, 0), 1 + many % 4);
                due("made(" + many + ", 1) of " + (many + 1), x.made(many, 1), 0);
            }
        }
        due("made(23, 0) of 24", x.made(23, 0), 4);
        x.unpick();
        due("made(23, 0), unpicked", x.made(23, 0), NONE);
        due("made(22, 0), not unpicked", x.made(22, 0), 3);
        x.cut();
        due("made(0, 0), cut off", x.made(0, 0), NONE);
        refused(BUSY, NONE, "made(2, 0)", y -> y.made(2, 0));
        refused(BUSY, NONE, "made(2, 1)", y -> y.made(2, 1));
        refused(BUSY, NONE, "made(24, 1)", y -> y.made(24, 1));
        refused(BUSY, NONE, "made(HIGHEST, 0)", y -> y.made(HIGHEST, 0));
    }

    static void madeRefused() {
        sentence("Promise 10", "BAD (k below 0, too).");
        int[][] wrong = {{-1, 0}, {-1, 1}, {0, 2}, {0, -1}, {1, 2}, {-1, 2}, {LOWEST, 0}, {0, LOWEST}, {0, HIGHEST},
            {2, 2}, {2, -1}, {24, 2}, {HIGHEST, HIGHEST}};
        for (int[] w : wrong) {
            refused(BUSY, BAD, "made(" + w[0] + ", " + w[1] + ")", x -> x.made(w[0], w[1]));
        }
    }
}
