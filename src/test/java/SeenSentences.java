/** Part 4 of the terms, its first half, and promises 24 to 28: what was SEEN, who made it, and which ROW was a SLIP. */
public final class SeenSentences extends Sentences {
    private static final int ALL_AS_MADE = 16777216;

    public static void main(String[] args) throws Exception {
        runAll(SeenSentences.class);
    }

    private static void seeAll(BobbinTalk x, int... rows) {
        x.forget();
        for (int row : rows) {
            x.see(row);
        }
    }

    // ---- the terms: seen

    static void seenAreRows0To5() {
        sentence("Terms 4", "SEEN (8 at most) is a ROW (0 to 5), one behind the other, as what SOUNDS are for one MAKER.");
        BobbinTalk x = laid("m0,1,0123;m0,1,4500;");
        for (int row = 0; row <= 5; row++) {
            seeAll(x, row);
            due("who() of " + row, x.who(), row == 0 ? 3 : row <= 3 ? 1 : 2);
        }
        x.forget();
        due("see(-1)", x.see(-1), BAD);
        due("see(6)", x.see(6), BAD);
    }

    static void eightAreSeenAtMost() {
        sentence("Terms 4", "SEEN (8 at most) is a ROW (0 to 5), one behind the other, as what SOUNDS are for one MAKER.");
        BobbinTalk x = laid("m0,1,0005;m0,1,0000;");
        for (int i = 1; i <= 8; i++) {
            due("see(0) of " + i, x.see(i == 8 ? 5 : 0), i);
        }
        due("see(0) of nine", x.see(0), FULL);
        due("count(6)", x.count(6), 8);
        due("who(), by the eighth too", x.who(), 1);
        due("said(0, 0)", x.said(0, 0), 2187);
        due("forget()", x.forget(), 8);
        due("see(0)", x.see(0), 1);
    }

    static void seenOneBehindTheOther() {
        sentence("Terms 4", "SEEN (8 at most) is a ROW (0 to 5), one behind the other, as what SOUNDS are for one MAKER.");
        BobbinTalk x = laid("m0,1,1234;");
        seeAll(x, 1, 2, 3, 4, 4, 3, 2, 1);
        due("said(0, 1)", x.said(0, 1), saying("abcddcba"));
        seeAll(x, 4, 1);
        due("said(0, 1)", x.said(0, 1), saying("da"));
    }

    static void seenIsTheRowToldOfASound() {
        sentence("Terms 4", "SEEN (8 at most) is a ROW (0 to 5), one behind the other, as what SOUNDS are for one MAKER.");
        // a HASTY one's 3 is a 3, though he makes it as TWIST alone; so is a CAREFUL one's
        BobbinTalk x = laid("m2,1,3333;m3,1,3333;m1,1,5555;m0,1,1111;");
        seeAll(x, 3);
        due("who() of 3", x.who(), 3);
        seeAll(x, 1);
        due("who() of 1", x.who(), 8);
        seeAll(x, 5);
        due("who() of 5", x.who(), 4);
        seeAll(x, 0);
        due("who() of 0", x.who(), 0);
    }

    static void whoOfAllThatIsSeen() {
        sentence("Terms 4", "WHO: MAKERS (bits) of whom all that is SEEN can be.");
        BobbinTalk x = laid("m0,1,1123;m2,1,3000;m1,1,3211;");
        due("who() of nothing", x.who(), 7);
        seeAll(x, 3);
        due("who() of 3", x.who(), 7);
        seeAll(x, 3, 1);
        due("who() of 3, 1", x.who(), 5);
        seeAll(x, 3, 1, 2, 0);
        due("who() of 3, 1, 2, 0", x.who(), 0);
        seeAll(x, 0);
        due("who() of 0", x.who(), 2);
        // all by one, not each by someone
        seeAll(x, 0, 2);
        due("who() of 0, 2", x.who(), 0);
    }

    static void whoOfEachMaker() {
        sentence("Terms 4", "WHO: MAKERS (bits) of whom all that is SEEN can be.");
        String letters = "";
        for (int m = 0; m < 4; m++) {
            letters += "m0,1," + m + "555;";
            BobbinTalk x = laid(letters);
            due("who() of nothing, of " + (m + 1), x.who(), (1 << m + 1) - 1);
            seeAll(x, m);
            due("who() of " + m, x.who(), 1 << m);
            seeAll(x, 5, 5, 5, 5, 5, 5, 5, m);
            due("who() of seven and " + m, x.who(), 1 << m);
            seeAll(x, 5);
            due("who() of 5", x.who(), (1 << m + 1) - 1);
            seeAll(x, 4);
            due("who() of 4", x.who(), 0);
        }
    }

    static void saidOfHowManySayings() {
        sentence("Terms 4", "SAID: of how many SAYINGS (of as many SOUNDS) of a MAKER it can be;");
        BobbinTalk x = laid("m0,1,2112;m2,1,3000;m0,1,5555;");
        seeAll(x, 1);
        due("said(0, 0) of 1", x.said(0, 0), 2);
        due("said(1, 0) of 1", x.said(1, 0), 0);
        seeAll(x, 1, 2, 1);
        due("said(0, 0) of 1, 2, 1", x.said(0, 0), 8);
        seeAll(x, 1, 2, 3);
        due("said(0, 0) of 1, 2, 3", x.said(0, 0), 0);
        int all = 1;
        x.forget();
        for (int i = 0; i < 8; i++) {
            x.see(5);
            all *= 4;
            due("said(2, 0) of 5, " + (i + 1) + " times", x.said(2, 0), all);
        }
        seeAll(x, 0, 0, 0, 0, 0, 0, 0, 3);
        due("said(1, 0) of seven by three and one", x.said(1, 0), 2187);
    }

    static void saidTheLowest() {
        sentence("Terms 4", "the lowest;");
        BobbinTalk x = laid("m0,1,2112;m0,1,5555;m0,1,0005;m0,1,0055;");
        seeAll(x, 1, 2, 1);
        due("said(0, 1) of 1, 2, 1", x.said(0, 1), saying("bab"));
        seeAll(x, 5, 5, 5, 5, 5, 5, 5, 5);
        due("said(1, 1), the lowest saying of eight sounds", x.said(1, 1), 97656);
        due("said(2, 1), the highest saying", x.said(2, 1), 390624);
        due("said(3, 1)", x.said(3, 1), saying("cccccccc"));
        seeAll(x, 5);
        due("said(1, 1), the lowest saying", x.said(1, 1), 1);
        due("said(2, 1)", x.said(2, 1), 4);
    }

    static void saidNone() {
        sentence("Terms 4", "none (nothing is SEEN, too).");
        BobbinTalk x = laid("m0,1,2112;m0,1,3333;");
        due("said(0, 0) of nothing", x.said(0, 0), 0);
        due("said(0, 1) of nothing", x.said(0, 1), NONE);
        seeAll(x, 1);
        due("said(1, 0) of what he does not make", x.said(1, 0), 0);
        due("said(1, 1) of what he does not make", x.said(1, 1), NONE);
        seeAll(x, 3, 3, 3, 3, 3, 3, 3, 1);
        due("said(1, 0), the last is not his", x.said(1, 0), 0);
        due("said(1, 1), the last is not his", x.said(1, 1), NONE);
        due("said(0, 1), the first is not his", x.said(0, 1), NONE);
        x.forget();
        due("said(1, 0), forgotten", x.said(1, 0), 0);
        due("said(1, 1), forgotten", x.said(1, 1), NONE);
    }

    // ---- the terms: slip

    static void slipFiguresFromTheHighest() {
        sentence("Terms 4", "SLIP by S (a number; its figures, as many as there are BOBBINS, from the highest, are SPANGLES from the left):");
        BobbinTalk x = laid("n4;m0,1,1000;s0900;");
        due("slip(900)", x.slip(900), ALL_AS_MADE);
        due("slip(9000)", x.slip(9000), 0);
        x.change(0, 1);
        due("slip(9000), changed", x.slip(9000), ALL_AS_MADE);
        due("slip(900), changed", x.slip(900), 0);
        x.change(1, 3);
        due("slip(9), changed", x.slip(9), ALL_AS_MADE);
        BobbinTalk y = laid("n6;m0,1,1000;s123456;");
        due("slip(123456)", y.slip(123456), ALL_AS_MADE);
        y.say(0);
        due("slip(214365)", y.slip(214365), ALL_AS_MADE);
        due("slip(123456)", y.slip(123456), 1);
    }

    static void slipOfEachRow() {
        sentence("Terms 4", "of ROWS MADE those (bits; 0 the first) such that, were that one a PIN, SPANGLES would lie so behind all of them,");
        // one TWIST among 24 rows, the others PINS
        for (int k = 0; k < 24; k++) {
            BobbinTalk x = laid("n2;m0,1,1000;");
            for (int i = 0; i < 24; i++) {
                x.say(i == k ? 0 : 1);
            }
            due("slip(1), TWIST the row " + k, x.slip(1), 1 << k);
            due("slip(10), TWIST the row " + k, x.slip(10), ALL_AS_MADE + (1 << 24) - 1 - (1 << k));
        }
    }

    static void slipOfRowsThatDoTheSame() {
        sentence("Terms 4", "of ROWS MADE those (bits; 0 the first) such that, were that one a PIN, SPANGLES would lie so behind all of them,");
        BobbinTalk x = laid("n3;m0,1,1250;m1,1,1250;s012;");
        x.say(0);
        x.say(1);
        // 012, TWIST 102, ACROSS 120; without the first 021, without the second 102
        due("slip(120)", x.slip(120), ALL_AS_MADE);
        due("slip(21)", x.slip(21), 1);
        due("slip(102)", x.slip(102), 2);
        due("slip(12)", x.slip(12), 0);
        x.say(3);
        due("slip(120), a PIN made", x.slip(120), ALL_AS_MADE + 4);
        x.sit(1);
        x.say(0);
        // TWIST from the right: 120 to 102; 021 to 012; 102 to 120
        due("slip(102), left-handed", x.slip(102), ALL_AS_MADE + 4);
        due("slip(12), left-handed", x.slip(12), 1);
        due("slip(120), left-handed", x.slip(120), 2 + 8);
        due("slip(210), left-handed", x.slip(210), 0);
    }

    static void slipOfSpanglesAlike() {
        sentence("Terms 4", "of ROWS MADE those (bits; 0 the first) such that, were that one a PIN, SPANGLES would lie so behind all of them,");
        BobbinTalk y = laid("n2;m0,1,1000;s77;");
        y.say(0);
        y.say(0);
        due("slip(77)", y.slip(77), ALL_AS_MADE + 3);
        due("slip(70)", y.slip(70), 0);
        BobbinTalk z = laid("n6;m0,1,1000;s000000;");
        times(24, () -> z.say(0));
        due("slip(0) of 24", z.slip(0), ALL_AS_MADE + (1 << 24) - 1);
        due("slip(1) of 24", z.slip(1), 0);
        due("slip(999999) of 24", z.slip(999999), 0);
    }

    static void slipFromAheadOfTheFirstRow() {
        sentence("Terms 4", "BOBBINS lying ahead of the first one as they did then,");
        BobbinTalk x = laid("n3;m0,1,1250;s012;");
        x.change(0, 2);
        x.say(0);
        due("slip(120)", x.slip(120), ALL_AS_MADE);
        due("slip(210), the row a PIN", x.slip(210), 1);
        x.change(0, 1);
        due("slip(120), changed behind", x.slip(120), ALL_AS_MADE);
        due("slip(210), changed behind", x.slip(210), 1);
        x.cut();
        due("slip(21), cut off, as they lie now", x.slip(21), ALL_AS_MADE);
        x.say(1);
        due("slip(12), from how they lay at the cut", x.slip(12), ALL_AS_MADE);
        due("slip(21)", x.slip(21), 1);
        x.unpick();
        x.change(1, 2);
        x.say(1);
        due("slip(21), the first row made anew", x.slip(21), ALL_AS_MADE);
        due("slip(12)", x.slip(12), 1);
    }

    static void slipNothingElseBetween() {
        sentence("Terms 4", "nothing else being done between;");
        BobbinTalk x = laid("n3;m0,1,1250;m1,1,5555;s012;");
        x.say(0);
        x.change(0, 2);
        x.sit(1);
        x.sit(0);
        x.say(1);
        // said: 102, changed 120, ACROSS 102; without the change 120
        due("lies", lies(x), 102);
        due("slip(120)", x.slip(120), ALL_AS_MADE);
        due("slip(102)", x.slip(102), 2);
        due("slip(21)", x.slip(21), 1);
    }

    static void slipAllBeingAsMade() {
        sentence("Terms 4", "16777216 more, if they would, all being as MADE");
        BobbinTalk x = laid("n2;m0,1,1000;");
        x.say(1);
        due("slip(1), the PIN or none", x.slip(1), ALL_AS_MADE + 1);
        x.say(0);
        due("slip(1), the TWIST", x.slip(1), 2);
        due("slip(10), the PIN or none", x.slip(10), ALL_AS_MADE + 1);
        due("slip(11)", x.slip(11), 0);
        x.sit(0);
        x.change(0, 1);
        due("slip(10), changed behind", x.slip(10), ALL_AS_MADE + 1);
    }

    static void slipOfNoRow() {
        sentence("Terms 4", "(no ROW MADE: as BOBBINS lie now).");
        BobbinTalk x = laid("n3;m0,1,1250;s012;");
        due("slip(12)", x.slip(12), ALL_AS_MADE);
        due("slip(21)", x.slip(21), 0);
        x.change(0, 2);
        due("slip(210)", x.slip(210), ALL_AS_MADE);
        due("slip(12)", x.slip(12), 0);
        x.say(0);
        x.change(0, 1);
        x.cut();
        due("slip(21), cut off", x.slip(21), ALL_AS_MADE);
        due("slip(210), cut off", x.slip(210), 0);
        x.say(0);
        x.unpick();
        x.change(0, 1);
        due("slip(120), unpicked", x.slip(120), ALL_AS_MADE);
    }

    // ---- promises 24 to 27

    static void seeTellsHowMany() {
        sentence("Promise 24", "SEEN: how many.");
        BobbinTalk x = new BobbinTalk();
        for (int i = 1; i <= 8; i++) {
            due("see(" + i % 6 + ")", x.see(i % 6), i);
            due("count(6)", x.count(6), i);
        }
    }

    static void seeRefused() {
        sentence("Promise 24", "BAD; FULL.");
        for (int row : new int[] {-1, 6, 7, LOWEST, HIGHEST}) {
            refused(BUSY, BAD, "see(" + row + ")", x -> x.see(row));
        }
        Calls full = x -> {
            BUSY.on(x);
            times(8, () -> x.see(5));
        };
        for (int row = 0; row <= 5; row++) {
            int one = row;
            refused(full, FULL, "see(" + row + ") of nine", x -> x.see(one));
        }
        refused(full, BAD, "see(6) of nine", x -> x.see(6));
        refused(full, BAD, "see(-1) of nine", x -> x.see(-1));
    }

    static void forgetTellsHowManyWere() {
        sentence("Promise 25", "Nothing is SEEN: how many were.");
        BobbinTalk x = new BobbinTalk();
        due("forget() of nothing", x.forget(), 0);
        for (int many = 1; many <= 8; many++) {
            times(many, () -> x.see(1));
            due("forget() of " + many, x.forget(), many);
            due("count(6)", x.count(6), 0);
            due("forget(), twice", x.forget(), 0);
        }
        times(8, () -> x.see(0));
        due("see(5) of nine", x.see(5), FULL);
        x.forget();
        due("see(5) of one", x.see(5), 1);
        due("who(), of the new one alone", x.who(), 6);
        due("said(1, 1)", x.said(1, 1), 3);
    }

    static void whoAsBits() {
        sentence("Promise 26", "WHO, as bits.");
        BobbinTalk x = new BobbinTalk();
        int[] want = {8, 15, 15, 13, 3, 6};
        due("who() of nothing", x.who(), 15);
        for (int row = 0; row <= 5; row++) {
            seeAll(x, row);
            due("who() of " + row, x.who(), want[row]);
        }
        due("who() of one maker", laid("m0,1,0000;").who(), 1);
        // 5, 3 are seen there, of which maker 0 makes no 3
        answersAndChangesNothing(BUSY, 2, "who()", BobbinTalk::who);
        answersAndChangesNothing(y -> {
        }, 15, "who() of nothing", BobbinTalk::who);
    }

    static void saidHowManyAndTheLowest() {
        sentence("Promise 27", "SAID: how many (what = 0; 0: none), the lowest (1; NONE). BAD.");
        BobbinTalk z = laid("m0,1,1234;");
        seeAll(z, 4, 3);
        due("said(0, 0)", z.said(0, 0), 1);
        due("said(0, 1)", z.said(0, 1), saying("dc"));
        answersAndChangesNothing(BUSY, 4, "said(1, 0)", x -> x.said(1, 0));
        answersAndChangesNothing(BUSY, saying("ac"), "said(1, 1)", x -> x.said(1, 1));
        answersAndChangesNothing(BUSY, 0, "said(0, 0)", x -> x.said(0, 0));
        refused(BUSY, NONE, "said(0, 1)", x -> x.said(0, 1));
        Calls nothing = x -> {
            BUSY.on(x);
            x.forget();
        };
        answersAndChangesNothing(nothing, 0, "said(1, 0) of nothing", x -> x.said(1, 0));
        refused(nothing, NONE, "said(1, 1) of nothing", x -> x.said(1, 1));
    }

    static void saidRefused() {
        sentence("Promise 27", "SAID: how many (what = 0; 0: none), the lowest (1; NONE). BAD.");
        int[][] wrong = {{-1, 0}, {-1, 1}, {2, 0}, {2, 1}, {0, -1}, {0, 2}, {2, 2}, {LOWEST, 0}, {HIGHEST, 1}, {0, LOWEST}, {0, HIGHEST}};
        for (int[] w : wrong) {
            refused(BUSY, BAD, "said(" + w[0] + ", " + w[1] + ")", x -> x.said(w[0], w[1]));
            BobbinTalk x = laid("m0,1,1234;m0,1,1234;");
            due("said(" + w[0] + ", " + w[1] + ") of nothing", x.said(w[0], w[1]), BAD);
        }
        String letters = "";
        for (int many = 1; many <= 4; many++) {
            letters += "m0,1,1234;";
            due("said(last, 1) of " + many, laid(letters).said(many - 1, 1), NONE);
            due("said(none, 1) of " + many, laid(letters).said(many, 1), BAD);
        }
    }

    // ---- promise 28

    static void slipAsBits() {
        sentence("Promise 28", "SLIP, as bits, and 16777216.");
        BobbinTalk x = new BobbinTalk();
        due("slip(335170)", x.slip(335170), ALL_AS_MADE);
        x.say(0);
        // spangles behind TWIST: 33 15 07
        due("slip(331507)", x.slip(331507), ALL_AS_MADE);
        due("slip(335170)", x.slip(335170), 1);
        x.say(0);
        due("slip(335170)", x.slip(335170), ALL_AS_MADE);
        due("slip(331507)", x.slip(331507), 3);
        // TWIST by maker 0; TWIST, ACROSS by 1: 0213 by both, 1302 by the second, 1032 by the first; spangles 9081
        answersAndChangesNothing(BUSY, ALL_AS_MADE, "slip(9801)", y -> y.slip(9801));
        answersAndChangesNothing(BUSY, 1, "slip(198)", y -> y.slip(198));
        answersAndChangesNothing(BUSY, 2, "slip(918)", y -> y.slip(918));
        answersAndChangesNothing(BUSY, 0, "slip(0)", y -> y.slip(0));
    }

    static void slipOfNoMoreFiguresThanBobbins() {
        sentence("Promise 28", "BAD (S 0 to 999999, no more figures than there are BOBBINS; fewer: 0 ahead).");
        int most = 10;
        for (int n = 2; n <= 6; n++) {
            most *= 10;
            BobbinTalk x = laid("n" + n + ";m0,1,1234;s" + "999999".substring(0, n) + ";");
            due("slip(" + (most - 1) + ") of " + n, x.slip(most - 1), ALL_AS_MADE);
            due("slip(" + most + ") of " + n, x.slip(most), BAD);
            due("slip(" + (most + 1) + ") of " + n, x.slip(most + 1), BAD);
            due("slip(999999) of " + n, x.slip(999999), n == 6 ? ALL_AS_MADE : BAD);
            due("slip(1000000) of " + n, x.slip(1000000), BAD);
            due("slip(0) of " + n, x.slip(0), 0);
            due("slip(-1) of " + n, x.slip(-1), BAD);
        }
    }

    static void slipOfFewerFigures() {
        sentence("Promise 28", "BAD (S 0 to 999999, no more figures than there are BOBBINS; fewer: 0 ahead).");
        for (int n = 2; n <= 6; n++) {
            BobbinTalk x = laid("n" + n + ";m0,1,1234;s" + "000000".substring(0, n - 1) + "7;");
            due("slip(7) of " + n, x.slip(7), ALL_AS_MADE);
            due("slip(70) of " + n, x.slip(70), 0);
            x.change(0, n - 1);
            due("slip(7) of " + n + ", changed", x.slip(7), 0);
            due("slip(7 ahead) of " + n + ", changed", x.slip(7 * (int) Math.pow(10, n - 1)), ALL_AS_MADE);
            due("slip(0) of " + n, x.slip(0), 0);
            due("slip(0) of " + n + ", all 0", laid("n" + n + ";m0,1,1234;s" + "000000".substring(0, n) + ";").slip(0), ALL_AS_MADE);
        }
    }

    static void slipRefused() {
        sentence("Promise 28", "BAD (S 0 to 999999, no more figures than there are BOBBINS; fewer: 0 ahead).");
        for (int s : new int[] {-1, 10000, 10001, 999999, 1000000, ALL_AS_MADE, LOWEST, HIGHEST}) {
            refused(BUSY, BAD, "slip(" + s + ")", x -> x.slip(s));
        }
    }
}
