import java.math.BigInteger;

/** Part 4 of the terms, its second half, and promises 29 to 33: SLIPS by chance, WINTERS by DRAWS, what is KEPT, counts. */
public final class WinterSentences extends Sentences {
    public static void main(String[] args) throws Exception {
        runAll(WinterSentences.class);
    }

    // ---- the terms: slips

    private static void chance(BobbinTalk x, int m, String sounds, int tenths, int above, int below) {
        String call = "slips(" + m + ", " + sounds + ", " + tenths + ", ";
        due(call + "0)", x.slips(m, saying(sounds), tenths, 0), above);
        due(call + "1)", x.slips(m, saying(sounds), tenths, 1), below);
    }

    static void slipsByTenths0To10() {
        sentence("Terms 4", "SLIPS for a MAKER, a SAYING: each SOUND is a PIN by x (0 to 10) of ten, for itself, else his ROW:");
        BobbinTalk x = laid("n2;m0,1,1000;");
        int[][] want = {{1, 1}, {9, 10}, {4, 5}, {7, 10}, {3, 5}, {1, 2}, {2, 5}, {3, 10}, {1, 5}, {1, 10}, {0, 1}};
        for (int tenths = 0; tenths <= 10; tenths++) {
            chance(x, 0, "a", tenths, want[tenths][0], want[tenths][1]);
            chance(x, 0, "b", tenths, 1, 1);
        }
        for (int tenths : new int[] {-1, 11, 12, LOWEST, HIGHEST}) {
            due("slips(0, 1, " + tenths + ", 0)", x.slips(0, 1, tenths, 0), BAD);
            due("slips(0, 1, " + tenths + ", 1)", x.slips(0, 1, tenths, 1), BAD);
        }
    }

    static void slipsOfNoneAndOfAll() {
        sentence("Terms 4", "SLIPS for a MAKER, a SAYING: each SOUND is a PIN by x (0 to 10) of ten, for itself, else his ROW:");
        BobbinTalk x = laid("n6;m0,1,3412;m3,1,1250;");
        for (String sounds : new String[] {"a", "abcd", "aaaaaaaa", "dcdcdcdc"}) {
            chance(x, 0, sounds, 0, 1, 1);
            chance(x, 0, sounds, 10, 0, 1);
        }
        chance(x, 0, "aaaaaa", 10, 1, 1);
        chance(x, 0, "cccccccc", 10, 1, 1);
        chance(x, 1, "aaaaaaaa", 5, 1, 1);
    }

    static void slipsOfEachSoundForItself() {
        sentence("Terms 4", "SLIPS for a MAKER, a SAYING: each SOUND is a PIN by x (0 to 10) of ten, for itself, else his ROW:");
        BobbinTalk x = laid("n2;m0,1,1000;");
        // aa: both or none; aaaaaaaa: an even number of slips, (1 + 0.8^8) / 2 = 58388608 of 100000000
        chance(x, 0, "aa", 3, 29, 50);
        chance(x, 0, "aa", 10, 1, 1);
        chance(x, 0, "aaa", 10, 0, 1);
        chance(x, 0, "aba", 3, 29, 50);
        chance(x, 0, "aaaaaaaa", 1, 456161, 781250);
        chance(x, 0, "aaaaaaaa", 5, 1, 2);
        chance(x, 0, "abbbbbbb", 9, 1, 10);
        chance(x, 0, "bbbbbbba", 9, 1, 10);
    }

    static void slipsOfFewerSoundsBehindMore() {
        sentence("Terms 4", "SLIPS for a MAKER, a SAYING: each SOUND is a PIN by x (0 to 10) of ten, for itself, else his ROW:");
        BobbinTalk x = laid("n2;m0,1,1000;");
        for (String sounds : new String[] {"aaaaaaaa", "aaaa", "aaa", "aa", "a"}) {
            chance(x, 0, "aaaaaaaa", 5, 1, 2);
            chance(x, 0, sounds, 5, 1, 2);
        }
        chance(x, 0, "aaaaaaaa", 1, 456161, 781250);
        chance(x, 0, "aa", 3, 29, 50);
        chance(x, 0, "a", 3, 7, 10);
    }

    static void slipsOfAllBobbinsAsByTheSaying() {
        sentence("Terms 4", "the chance that all BOBBINS lie as they would by the SAYING,");
        BobbinTalk y = laid("n3;m0,1,1200;");
        // ab: only both rows bring it, 9 * 9 of 100; aab: a both or none
        chance(y, 0, "ab", 1, 81, 100);
        chance(y, 0, "aab", 1, 369, 500);
        // HALF leaves all but two where they are: that is not all
        chance(laid("n6;m0,1,5000;"), 0, "a", 9, 1, 10);
        chance(laid("n6;m1,1,5000;"), 0, "a", 9, 1, 10);
        chance(laid("n4;m0,1,5000;"), 0, "a", 9, 1, 10);
        // as by two TWISTS, ACROSS of eight: by two or all eight, for six lead round
        chance(laid("n6;m0,1,3000;"), 0, "aaaaaaaa", 1, 43048989, 100000000);
        chance(laid("n6;m0,1,3000;"), 0, "aaaaaaaa", 9, 14880349, 100000000);
        BobbinTalk z = laid("n3;m0,1,1200;m1,1,1200;");
        z.change(0, 2);
        z.say(1);
        chance(z, 0, "ab", 1, 81, 100);
        chance(z, 1, "aab", 1, 369, 500);
    }

    static void slipsByHisOwnRow() {
        sentence("Terms 4", "the chance that all BOBBINS lie as they would by the SAYING,");
        // ba is TWIST, then TWIST, ACROSS; to the hasty one two TWISTS, as are two PINS; b is as a PIN to the careful one
        BobbinTalk x = laid("n3;m0,1,3120;m1,1,3120;m2,1,3120;m3,1,3120;");
        chance(x, 0, "ba", 4, 9, 25);
        chance(x, 1, "ba", 4, 9, 25);
        chance(x, 2, "ba", 4, 13, 25);
        chance(x, 3, "ba", 4, 3, 5);
    }

    static void slipsInLowestTerms() {
        sentence("Terms 4", "in lowest terms.");
        BobbinTalk x = laid("n2;m0,1,1000;");
        chance(x, 0, "a", 5, 1, 2);
        chance(x, 0, "a", 10, 0, 1);
        chance(x, 0, "a", 0, 1, 1);
        chance(x, 0, "bbbbbbbb", 7, 1, 1);
        BobbinTalk y = laid("n6;m0,1,1250;");
        chance(y, 0, "abcabcab", 10, 0, 1);
        chance(y, 0, "ab", 5, 1, 4);
        chance(y, 0, "ab", 6, 4, 25);
        chance(y, 0, "ab", 7, 9, 100);
    }

    // ---- the terms: winters

    private static int draw(int z, int k) {
        BigInteger x = BigInteger.valueOf(7919L * z + 6151L * k + 1);
        return x.multiply(x).mod(BigInteger.valueOf(65521)).intValueExact();
    }

    static void wintersOfZ0To9999AndN1To60() {
        sentence("Terms 4", "A WINTER by z (0 to 9999) of n (1 to 60) from now on (nothing changes by it):");
        BobbinTalk x = laid("n2;m0,1,1000;");
        for (int z : new int[] {0, 1, 9998, 9999}) {
            for (int n : new int[] {1, 2, 59, 60}) {
                due("winter(" + z + ", " + n + ", 0) is told", x.winter(z, n, 0) >= 0 ? 1 : 0, 1);
                due("winter(" + z + ", " + n + ", 1) is told", x.winter(z, n, 1) >= 0 ? 1 : 0, 1);
            }
        }
        for (int z : new int[] {-1, 10000, 10001, LOWEST, HIGHEST}) {
            due("winter(" + z + ", 1, 0)", x.winter(z, 1, 0), BAD);
            due("winter(" + z + ", 60, 1)", x.winter(z, 60, 1), BAD);
        }
        for (int n : new int[] {0, -1, 61, 62, LOWEST, HIGHEST}) {
            due("winter(0, " + n + ", 0)", x.winter(0, n, 0), BAD);
            due("winter(9999, " + n + ", 1)", x.winter(9999, n, 1), BAD);
        }
    }

    static void winterFromNowOn() {
        sentence("Terms 4", "A WINTER by z (0 to 9999) of n (1 to 60) from now on (nothing changes by it):");
        BobbinTalk x = laid("n4;m0,1,1250;m0,1,0001;");
        // by 0: DRAW 1 says a; by 30: 59599 lets maker 1 sit down, 57499 says d
        due("winter(0, 1, 0)", x.winter(0, 1, 0), 1);
        x.change(0, 3);
        due("winter(0, 1, 0), changed", x.winter(0, 1, 0), 1);
        x.change(0, 1);
        due("winter(0, 1, 0), changed", x.winter(0, 1, 0), 0);
        x.sit(1);
        due("winter(0, 1, 0), a PIN by 1", x.winter(0, 1, 0), 3);
        x.undo();
        due("winter(0, 1, 0), undone", x.winter(0, 1, 0), 0);
        due("winter(0, 1, 0), twice", x.winter(0, 1, 0), 0);
    }

    static void winterChangesNothing() {
        sentence("Terms 4", "A WINTER by z (0 to 9999) of n (1 to 60) from now on (nothing changes by it):");
        // 0: says, sits, says, sits; 2 unpicks; 24 cuts off; 10 says, unpicks; the last goes on for long
        int[][] winters = {{0, 4, 0}, {2, 1, 1}, {24, 1, 0}, {10, 2, 1}, {9999, 60, 1}, {7, 60, 0}};
        for (int[] w : winters) {
            BobbinTalk x = madeBy(BUSY);
            int told = x.winter(w[0], w[1], w[2]);
            answersAndChangesNothing(BUSY, told, "winter(" + w[0] + ", " + w[1] + ", " + w[2] + ")", y -> y.winter(w[0], w[1], w[2]));
        }
    }

    static void winterMakerSitsDown() {
        sentence("Terms 4", "in the k-th (0 first), if DRAW modulo 8 is 7, MAKER (DRAW by 8, cut) modulo as many as there are sits down;");
        // first a maker sits down, told by DRAW by 8; then a sound is said
        int[][] winters = {{4, 5466}, {30, 7449}, {12, 1686}};
        for (int[] w : winters) {
            due("DRAW of winter " + w[0], draw(w[0], 0), w[1] * 8 + 7);
            for (int many = 1; many <= 4; many++) {
                for (int m = 0; m < many; m++) {
                    StringBuilder letters = new StringBuilder("n2;");
                    for (int i = 0; i < many; i++) {
                        letters.append(i == m ? "m0,1,1111;" : "m0,1,0000;");
                    }
                    BobbinTalk x = laid(letters.toString());
                    due("winter(" + w[0] + ", 1, 0) by " + letters, x.winter(w[0], 1, 0), 0);
                    due("winter(" + w[0] + ", 2, 0) by " + letters, x.winter(w[0], 2, 0), w[1] % many == m ? 1 : 0);
                }
            }
        }
    }

    static void winterLaceCutOff() {
        sentence("Terms 4", "if 6, the lace is CUT OFF;");
        BobbinTalk x = laid("n4;m0,1,1250;");
        // by 24: 1470 cuts it off; by 3: 44670 cuts it off, 55589 unpicks; by 2: 59533 unpicks
        x.say(0);
        due("winter(24, 1, 0), bobbins stay", x.winter(24, 1, 0), 1);
        due("winter(3, 1, 0), bobbins stay", x.winter(3, 1, 0), 1);
        due("winter(3, 2, 0), nothing left to unpick", x.winter(3, 2, 0), 1);
        due("winter(2, 1, 0), not cut off", x.winter(2, 1, 0), 0);
        BobbinTalk y = laid("n2;m0,1,0001;");
        times(24, () -> y.say(0));
        // behind that 60504 says d, where 24 rows were made ahead of it
        due("winter(24, 2, 1)", y.winter(24, 2, 1), 1);
        due("winter(24, 2, 0)", y.winter(24, 2, 0), 1);
    }

    static void winterLastRowUnpicked() {
        sentence("Terms 4", "if 5, the last ROW is UNPICKED;");
        BobbinTalk x = laid("n4;m0,1,1250;");
        // by 2: 59533 unpicks; by 10: 3008 says a, 8125 unpicks
        due("winter(2, 1, 0), nothing to unpick", x.winter(2, 1, 0), 0);
        due("winter(10, 1, 0)", x.winter(10, 1, 0), 1);
        due("winter(10, 2, 0)", x.winter(10, 2, 0), 0);
        x.change(0, 2);
        x.say(0);
        x.change(1, 3);
        due("lies", lies(x), 3210);
        due("winter(2, 1, 0), as ahead of the row", x.winter(2, 1, 0), 2);
        due("winter(10, 2, 0), as ahead of the winter's row", x.winter(10, 2, 0), 3);
    }

    static void winterSoundSaid() {
        sentence("Terms 4", "else SOUND (DRAW by 8, cut) modulo 4 (0: a) is said;");
        // for each of DRAW modulo 8 from 0 to 4, some of a to d
        int[][] winters = {{10, 0, 0}, {21, 0, 1}, {6, 0, 2}, {5, 0, 3}, {0, 1, 0}, {8, 1, 1}, {17, 1, 2}, {9, 1, 3}, {16, 2, 2},
            {58, 2, 3}, {38, 3, 0}, {27, 3, 1}, {1, 3, 2}, {29, 3, 3}, {53, 4, 0}, {15, 4, 1}};
        for (int[] w : winters) {
            due("DRAW of winter " + w[0] + " modulo 8", draw(w[0], 0) % 8, w[1]);
            due("DRAW of winter " + w[0] + " by 8 modulo 4", draw(w[0], 0) / 8 % 4, w[2]);
            for (int sound = 0; sound < 4; sound++) {
                StringBuilder rows = new StringBuilder("0000");
                rows.setCharAt(sound, '1');
                BobbinTalk x = laid("n2;m0,1," + rows + ";");
                due("winter(" + w[0] + ", 1, 0) by rows " + rows, x.winter(w[0], 1, 0), sound == w[2] ? 1 : 0);
                due("winter(" + w[0] + ", 1, 1) by rows " + rows, x.winter(w[0], 1, 1), 1);
            }
        }
    }

    static void winterEachIfItCanBe() {
        sentence("Terms 4", "each if it can be;");
        // by 1: four sounds are said; by 2: 59533 unpicks, then c is said
        for (int ahead = 20; ahead <= 24; ahead++) {
            BobbinTalk x = laid("n2;m0,1,1111;");
            times(ahead, () -> x.say(0));
            int can = Math.min(4, 24 - ahead);
            due("winter(1, 4, 1) behind " + ahead, x.winter(1, 4, 1), can);
            due("winter(1, 4, 0) behind " + ahead, x.winter(1, 4, 0), (ahead + can) % 2);
        }
        BobbinTalk y = laid("n2;m0,1,1111;");
        due("winter(2, 1, 1), nothing to unpick", y.winter(2, 1, 1), 0);
        due("winter(2, 2, 1)", y.winter(2, 2, 1), 1);
        due("winter(2, 2, 0)", y.winter(2, 2, 0), 1);
        times(24, () -> y.say(0));
        due("winter(2, 2, 1), unpicked, so that one can be said", y.winter(2, 2, 1), 1);
        due("winter(2, 2, 0)", y.winter(2, 2, 0), 0);
    }

    static void winterDraws() {
        sentence("Terms 4", "DRAW being (x times x) modulo 65521, x 7919 z, 6151 k and 1 together:");
        // of a maker whose rows are all TWIST, how many are said tells all
        for (int z : new int[] {0, 1, 77, 4999, 5000, 9998, 9999}) {
            int rows = 0;
            int lie = 0;
            int all = 0;
            BobbinTalk x = laid("n2;m0,1,1111;");
            for (int k = 0; k < 60; k++) {
                int what = draw(z, k) % 8;
                if (what < 5 && rows < 24) {
                    rows++;
                    all++;
                    lie = 1 - lie;
                } else if (what == 5 && rows > 0) {
                    rows--;
                    lie = 1 - lie;
                } else if (what == 6) {
                    rows = 0;
                }
                due("winter(" + z + ", " + (k + 1) + ", 0)", x.winter(z, k + 1, 0), lie);
                due("winter(" + z + ", " + (k + 1) + ", 1)", x.winter(z, k + 1, 1), all);
            }
        }
    }

    static void winterBobbinAtPlace0() {
        sentence("Terms 4", "which BOBBIN lies at place 0 then;");
        // by 0: a is said by maker 0, maker 1 sits down, d is said by him
        BobbinTalk x = laid("n6;m0,1,1000;m0,1,0004;m0,1,0000;m0,1,0000;");
        due("winter(0, 1, 0), TWIST", x.winter(0, 1, 0), 1);
        due("winter(0, 2, 0)", x.winter(0, 2, 0), 1);
        // 103254, ACROSS 130524, TWIST 315042
        due("winter(0, 3, 0), ACROSS, TWIST", x.winter(0, 3, 0), 3);
        x.change(3, 5);
        due("winter(0, 3, 0), changed", x.winter(0, 3, 0), 5);
    }

    static void winterHowManyRowsCameToBeMade() {
        sentence("Terms 4", "how many ROWS came to be MADE in it (UNPICKED, CUT OFF again, too).");
        BobbinTalk x = laid("n4;m0,1,1250;");
        due("winter(10, 1, 1)", x.winter(10, 1, 1), 1);
        due("winter(10, 2, 1), unpicked again", x.winter(10, 2, 1), 1);
        due("winter(10, 3, 1)", x.winter(10, 3, 1), 2);
        due("winter(6, 3, 1)", x.winter(6, 3, 1), 3);
        due("winter(6, 4, 1), cut off again", x.winter(6, 4, 1), 3);
        times(5, () -> x.say(3));
        due("winter(6, 4, 1), none of those ahead of it", x.winter(6, 4, 1), 3);
        due("winter(24, 1, 1), cut off alone", x.winter(24, 1, 1), 0);
        due("winter(2, 1, 1), unpicked alone", x.winter(2, 1, 1), 0);
        due("winter(4, 1, 1), sat down alone", x.winter(4, 1, 1), 0);
    }

    // ---- the terms: kept

    static void keptIsAllAsItStands() {
        sentence("Terms 4", "KEPT is all as it stands, but what is SEEN and THE TEXT");
        BobbinTalk x = madeBy(BUSY);
        x.keep();
        int lay = lies(x);
        x.change(0, 1);
        x.sit(0);
        x.unpick();
        x.say(1);
        x.cut();
        times(24, () -> x.say(0));
        due("back()", x.back(), 1);
        due("lies", lies(x), lay);
        due("count(3)", x.count(3), 1);
        due("count(4)", x.count(4), 2);
        due("made(0, 0)", x.made(0, 0), 1);
        due("made(0, 1)", x.made(0, 1), 0);
        due("made(1, 0)", x.made(1, 0), 3);
        due("made(1, 1)", x.made(1, 1), 1);
        due("unpick(), to how they lay then", x.unpick(), 1);
        due("lies", lies(x), 1302);
        due("slip(1302 of spangles)", x.slip(918), 16777216);
    }

    static void keptOf24Rows() {
        sentence("Terms 4", "KEPT is all as it stands, but what is SEEN and THE TEXT");
        BobbinTalk x = laid("n6;m0,1,1234;");
        for (int i = 0; i < 24; i++) {
            x.say(i % 3);
        }
        int lay = lies(x);
        x.keep();
        x.cut();
        x.say(3);
        x.back();
        due("lies", lies(x), lay);
        due("count(4)", x.count(4), 24);
        for (int k = 0; k < 24; k++) {
            due("made(" + k + ", 0)", x.made(k, 0), 1 + k % 3);
        }
        due("say(0)", x.say(0), FULL);
    }

    static void seenAndTheTextStayByBack() {
        sentence("Terms 4", "(these stay by back(), behind which nothing can be UNDONE):");
        BobbinTalk x = laid("n4;m0,1,1234;");
        x.see(1);
        x.see(2);
        x.keep();
        x.see(3);
        x.write('q');
        due("back()", x.back(), 0);
        due("count(6), seen since", x.count(6), 3);
        due("said(0, 1)", x.said(0, 1), saying("abc"));
        due("count(9), written since", x.count(9), 14);
        due("fault()", x.fault(), 13);
        x.keep();
        x.forget();
        x.wipe();
        due("back()", x.back(), 0);
        due("count(6), forgotten since", x.count(6), 0);
        due("count(9), wiped since", x.count(9), 0);
        due("fault()", x.fault(), NONE);
    }

    static void behindBackNothingCanBeUndone() {
        sentence("Terms 4", "(these stay by back(), behind which nothing can be UNDONE):");
        BobbinTalk x = laid("n4;m0,1,1234;");
        times(9, () -> x.say(0));
        x.keep();
        x.say(1);
        due("count(7)", x.count(7), 8);
        x.back();
        due("count(7)", x.count(7), 0);
        due("undo()", x.undo(), NO);
        due("count(4)", x.count(4), 9);
        x.say(1);
        due("count(7), said since", x.count(7), 1);
        due("undo()", x.undo(), 0);
        due("undo()", x.undo(), NO);
        due("count(4)", x.count(4), 9);
    }

    static void keepLeavesWhatCanBeUndone() {
        sentence("Terms 4", "(these stay by back(), behind which nothing can be UNDONE):");
        BobbinTalk x = laid("n4;m0,1,1234;");
        x.say(0);
        x.say(1);
        x.keep();
        due("count(7)", x.count(7), 2);
        due("undo(), though kept since", x.undo(), 1);
        due("count(4)", x.count(4), 1);
        due("count(8), kept still", x.count(8), 1);
        due("back()", x.back(), 0);
        due("count(4), as kept", x.count(4), 2);
    }

    static void twoAreKeptAtMost() {
        sentence("Terms 4", "2 at most.");
        BobbinTalk x = laid("n4;m0,1,1234;");
        x.say(0);
        due("keep()", x.keep(), 1);
        x.say(1);
        due("keep()", x.keep(), 2);
        x.say(2);
        due("keep() of three", x.keep(), FULL);
        x.say(3);
        due("back(), as kept last, not as refused", x.back(), 1);
        due("count(4)", x.count(4), 2);
        due("keep()", x.keep(), 2);
        due("keep() of three", x.keep(), FULL);
        due("back()", x.back(), 1);
        due("count(4)", x.count(4), 2);
        due("back()", x.back(), 0);
        due("count(4)", x.count(4), 1);
        due("back() of a third", x.back(), NO);
        due("count(4)", x.count(4), 1);
    }

    // ---- promises 29 to 33

    static void slipsAboveAndBelow() {
        sentence("Promise 29", "SLIPS: above (part = 0), below (1). BAD.");
        BobbinTalk x = new BobbinTalk();
        due("slips(0, 31, 3, 0)", x.slips(0, 31, 3, 0), 133);
        due("slips(0, 31, 3, 1)", x.slips(0, 31, 3, 1), 250);
        answersAndChangesNothing(BUSY, 7, "slips(0, 1, 3, 0)", y -> y.slips(0, 1, 3, 0));
        answersAndChangesNothing(BUSY, 10, "slips(0, 1, 3, 1)", y -> y.slips(0, 1, 3, 1));
    }

    static void slipsRefused() {
        sentence("Promise 29", "SLIPS: above (part = 0), below (1). BAD.");
        int[][] wrong = {{-1, 1, 0, 0}, {2, 1, 0, 0}, {0, 0, 0, 0}, {0, 5, 0, 1}, {0, 390625, 0, 0}, {0, 1, -1, 0}, {0, 1, 11, 1},
            {0, 1, 0, -1}, {0, 1, 0, 2}, {2, 0, 11, 2}, {LOWEST, 1, 0, 0}, {HIGHEST, 1, 0, 0}, {0, LOWEST, 0, 0}, {0, HIGHEST, 0, 0},
            {0, 1, LOWEST, 0}, {0, 1, HIGHEST, 0}, {0, 1, 0, LOWEST}, {0, 1, 0, HIGHEST}};
        for (int[] w : wrong) {
            refused(BUSY, BAD, "slips(" + w[0] + ", " + w[1] + ", " + w[2] + ", " + w[3] + ")", x -> x.slips(w[0], w[1], w[2], w[3]));
        }
    }

    static void winterBobbinAndRows() {
        sentence("Promise 30", "A WINTER: the BOBBIN (what = 0), ROWS (1). BAD.");
        BobbinTalk x = laid("n4;m0,1,1250;");
        due("winter(0, 1, 0)", x.winter(0, 1, 0), 1);
        due("winter(0, 1, 1)", x.winter(0, 1, 1), 1);
        due("winter(10, 2, 0)", x.winter(10, 2, 0), 0);
        due("winter(10, 2, 1)", x.winter(10, 2, 1), 1);
        due("winter(2, 1, 1)", x.winter(2, 1, 1), 0);
    }

    static void winterRefused() {
        sentence("Promise 30", "A WINTER: the BOBBIN (what = 0), ROWS (1). BAD.");
        int[][] wrong = {{-1, 1, 0}, {10000, 1, 0}, {0, 0, 0}, {0, 61, 0}, {0, -1, 1}, {0, 1, -1}, {0, 1, 2}, {10000, 61, 2}, {-1, 0, -1},
            {LOWEST, 1, 0}, {HIGHEST, 1, 0}, {0, LOWEST, 0}, {0, HIGHEST, 0}, {0, 1, LOWEST}, {0, 1, HIGHEST}};
        for (int[] w : wrong) {
            refused(BUSY, BAD, "winter(" + w[0] + ", " + w[1] + ", " + w[2] + ")", x -> x.winter(w[0], w[1], w[2]));
        }
    }

    static void keepTellsHowMany() {
        sentence("Promise 31", "KEPT: how many. FULL.");
        BobbinTalk x = new BobbinTalk();
        due("keep()", x.keep(), 1);
        due("count(8)", x.count(8), 1);
        due("keep()", x.keep(), 2);
        due("count(8)", x.count(8), 2);
        due("keep() of three", x.keep(), FULL);
        due("count(8)", x.count(8), 2);
        due("count(7), no keep() can be undone", x.count(7), 0);
    }

    static void keepRefused() {
        sentence("Promise 31", "KEPT: how many. FULL.");
        Calls twice = x -> {
            BUSY.on(x);
            x.keep();
            x.say(1);
        };
        refused(twice, FULL, "keep() of three", BobbinTalk::keep);
        refused(twice, FULL, "keep(), refused twice", x -> Math.max(x.keep(), x.keep()));
    }

    static void backAsKeptLast() {
        sentence("Promise 32", "As KEPT last (it is KEPT no more then): how many are left;");
        BobbinTalk x = laid("n4;m0,1,1250;m1,1,5555;");
        x.say(0);
        x.sit(1);
        x.say(3);
        x.keep();
        x.change(1, 3);
        x.cut();
        x.sit(0);
        x.keep();
        x.say(1);
        due("back()", x.back(), 1);
        due("count(8)", x.count(8), 1);
        due("count(3)", x.count(3), 0);
        due("count(4)", x.count(4), 0);
        due("lies", lies(x), 3021);
        x.say(0);
        due("back()", x.back(), 0);
        due("count(8)", x.count(8), 0);
        due("count(3)", x.count(3), 1);
        due("count(4)", x.count(4), 2);
        due("made(1, 0)", x.made(1, 0), 5);
        due("made(1, 1)", x.made(1, 1), 1);
        due("lies", lies(x), 1023);
        due("back()", x.back(), NO);
    }

    static void backUndoesNothingMore() {
        sentence("Promise 32", "nothing is UNDONE then. NO.");
        BobbinTalk x = madeBy(BUSY);
        due("count(7)", x.count(7), 4);
        due("back()", x.back(), 0);
        due("count(7)", x.count(7), 0);
        due("undo()", x.undo(), NO);
        due("count(4)", x.count(4), 1);
    }

    static void backRefused() {
        sentence("Promise 32", "nothing is UNDONE then. NO.");
        refused(x -> {
        }, NO, "back() of a new object", BobbinTalk::back);
        // what can be undone is left, where back() is refused
        refused(x -> {
            BUSY.on(x);
            x.back();
            x.say(0);
            x.sit(0);
        }, NO, "back() of a second", BobbinTalk::back);
        refused(x -> {
            BUSY.on(x);
            x.lay();
            x.say(0);
        }, NO, "back() behind lay()", BobbinTalk::back);
    }

    static void countOfEach() {
        sentence("Promise 33", "How many: 0 BOBBINS, 1 MAKERS, 2 ORDERS, 3 who sits at the pillow (which), 4 ROWS MADE,");
        BobbinTalk x = laid("n5;m0,1,1250;m1,1,5555;m1,1,5555;o3;o4;o5;o6;");
        x.sit(2);
        times(6, () -> x.say(0));
        due("count(0)", x.count(0), 5);
        due("count(1)", x.count(1), 3);
        due("count(2)", x.count(2), 4);
        due("count(3)", x.count(3), 2);
        due("count(4)", x.count(4), 6);
        for (int n = 2; n <= 6; n++) {
            due("count(0) of " + n, laid("n" + n + ";m0,1,0000;").count(0), n);
        }
        due("count(2) of none", laid("m0,1,0000;").count(2), 0);
    }

    static void countOfBobbinsInPlace() {
        sentence("Promise 33", "5 BOBBINS that lie at the place of their number,");
        BobbinTalk x = laid("n6;m0,1,1250;");
        due("count(5), all", x.count(5), 6);
        x.change(0, 5);
        due("count(5)", x.count(5), 4);
        x.change(0, 1);
        due("count(5)", x.count(5), 3);
        x.change(2, 3);
        due("count(5)", x.count(5), 1);
        x.change(4, 0);
        due("count(5), none", x.count(5), 0);
        due("count(5), TWIST of six", madeBy(y -> y.say(0)).count(5), 0);
        BobbinTalk five = laid("n5;m0,1,1250;");
        five.say(0);
        due("count(5), TWIST of five", five.count(5), 1);
    }

    static void countOfSeenUndoneKeptLetters() {
        sentence("Promise 33", "6 SEEN, 7 that can be UNDONE, 8 KEPT, 9 letters of THE TEXT. BAD.");
        BobbinTalk x = laid("n5;m0,1,1250;");
        for (int i = 0; i <= 10; i++) {
            due("count(6)", x.count(6), Math.min(i, 8));
            due("count(7)", x.count(7), Math.min(i, 8));
            due("count(8)", x.count(8), Math.min(i, 2));
            due("count(9)", x.count(9), 13 + i);
            x.see(0);
            x.say(0);
            x.keep();
            x.write('x');
        }
    }

    static void countRefused() {
        sentence("Promise 33", "6 SEEN, 7 that can be UNDONE, 8 KEPT, 9 letters of THE TEXT. BAD.");
        for (int what : new int[] {-1, 10, 11, LOWEST, HIGHEST}) {
            refused(BUSY, BAD, "count(" + what + ")", x -> x.count(what));
        }
    }
}
