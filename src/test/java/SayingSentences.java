/** Part 3 of the terms and promises 17 to 23: SAYINGS, what is foretold by them, and how ORDERS are dealt out. */
public final class SayingSentences extends Sentences {
    /** Of each length the lowest and the highest, and some between. */
    private static final int[] SAYINGS = {1, 2, 3, 4, 6, 7, 9, 11, 24, 31, 124, 156, 624, 781, 3124, 3906, 15624, 19531, 78124,
        97656, 97657, 195312, 292968, 390623, 390624};
    /** 0 and below, those with a figure 0 at each place, and those of nine SOUNDS and more. */
    private static final int[] NO_SAYINGS = {LOWEST, -390624, -97656, -4, -1, 0, 5, 10, 15, 20, 25, 26, 30, 50, 125, 126, 130, 155,
        625, 780, 3125, 3905, 15625, 19530, 78125, 97655, 97651, 97631, 97531, 97031, 94531, 82031, 390620, 390625, 390626,
        488281, 1953124, HIGHEST};

    public static void main(String[] args) throws Exception {
        runAll(SayingSentences.class);
    }

    private static BobbinTalk laidReversed(String letters) {
        BobbinTalk x = laid(letters);
        int n = x.count(0);
        for (int b = 0; b < n / 2; b++) {
            x.change(b, n - 1 - b);
        }
        return x;
    }

    // ---- the terms: sayings

    static void sayingOf1To8Sounds() {
        sentence("Terms 3", "A SAYING is 1 to 8 SOUNDS, told as a number:");
        BobbinTalk x = laid("n2;m0,1,1111;");
        for (int saying : SAYINGS) {
            int sounds = Integer.toString(saying, 5).length();
            due("behind(0, " + saying + ", 0)", x.behind(0, saying, 0), sounds % 2);
            due("round(0, " + saying + ")", x.round(0, saying), 1 + sounds % 2);
            due("alike(0, " + saying + ", 1)", x.alike(0, saying, 1), sounds % 2);
            due("alike(0, 24, " + saying + ")", x.alike(0, 24, saying), 1 - sounds % 2);
            due("slips(0, " + saying + ", 0, 1)", x.slips(0, saying, 0, 1), 1);
        }
    }

    static void noSayingOf0Or9Sounds() {
        sentence("Terms 3", "A SAYING is 1 to 8 SOUNDS, told as a number:");
        BobbinTalk x = laid("n2;m0,1,1111;");
        for (int saying : NO_SAYINGS) {
            due("behind(0, " + saying + ", 0)", x.behind(0, saying, 0), BAD);
            due("round(0, " + saying + ")", x.round(0, saying), BAD);
            due("alike(0, " + saying + ", 1)", x.alike(0, saying, 1), BAD);
            due("alike(0, 1, " + saying + ")", x.alike(0, 1, saying), BAD);
            due("slips(0, " + saying + ", 0, 0)", x.slips(0, saying, 0, 0), BAD);
            due("slips(0, " + saying + ", 0, 1)", x.slips(0, saying, 0, 1), BAD);
        }
    }

    static void allNumbersOfFourSounds() {
        sentence("Terms 3", "A SAYING is 1 to 8 SOUNDS, told as a number:");
        for (int from = -20; from < 780; from += 490) {
            BobbinTalk x = laid("n2;m0,1,0000;");
            for (int saying = from; saying < Math.min(from + 490, 780); saying++) {
                boolean is = saying > 0 && Integer.toString(saying, 5).indexOf('0') < 0;
                due("round(0, " + saying + ")", x.round(0, saying), is ? 1 : BAD);
            }
        }
    }

    static void figuresToTheBaseOf5() {
        sentence("Terms 3", "SOUNDS are figures (a 1, to d 4) to the base of 5, the first one the highest.");
        BobbinTalk x = laid("n4;m0,1,1250;");
        // a TWIST, b ACROSS, c HALF, d PIN
        int[][] want = {{1, 1032}, {2, 213}, {3, 1023}, {4, 123}, {7, 1302}, {11, 2031}, {8, 132}, {16, 132},
            {13, 2013}, {17, 1203}, {22, 213}, {14, 213}, {36, 3120}};
        for (int[] one : want) {
            due("behind " + Integer.toString(one[0], 5), liesBehind(x, 0, one[0]), one[1]);
        }
        due("behind abababab", liesBehind(x, 0, saying("abababab")), 123);
        due("behind aaaaaaab", liesBehind(x, 0, saying("aaaaaaab")), 1302);
        due("behind baaaaaaa", liesBehind(x, 0, saying("baaaaaaa")), 2031);
    }

    static void sayingIsFromHowBobbinsLieNow() {
        sentence("Terms 3", "A SAYING by a MAKER is his ROWS by its SOUNDS, from how BOBBINS lie now.");
        BobbinTalk x = laid("n4;m0,1,1250;m1,1,5555;");
        x.change(0, 3);
        due("behind ab", liesBehind(x, 0, 7), 1032);
        due("behind a, left-handed, though another sits there", liesBehind(x, 1, 1), 3102);
        x.say(0);
        due("lies", lies(x), 1302);
        due("behind ab", liesBehind(x, 0, 7), 3210);
        x.unpick();
        due("behind ab", liesBehind(x, 0, 7), 1032);
    }

    static void sayingIsOfHisRowsAlone() {
        sentence("Terms 3", "A SAYING by a MAKER is his ROWS by its SOUNDS, from how BOBBINS lie now.");
        // those who are told ahead of him and behind him make what he does not
        BobbinTalk x = laid("n4;m0,1,1222;m0,1,0000;m0,1,2221;m0,1,2222;");
        x.change(0, 1);
        due("home(0)", x.home(0), NONE);
        due("home(1)", x.home(1), NONE);
        due("home(3)", x.home(3), NONE);
        due("brings(1, 0, 0)", x.brings(1, 0, 0), NONE);
        due("brings(3, 0, 0)", x.brings(3, 0, 0), NONE);
        due("behind(1, a, 0)", x.behind(1, 1, 0), 1);
        due("behind(1, d, 0)", x.behind(1, 4, 0), 1);
        due("round(1, abcd)", x.round(1, saying("abcd")), 1);
        due("slips(1, abcd, 5, 1)", x.slips(1, saying("abcd"), 5, 1), 1);
        x.change(2, 3);
        due("ways(0, 1)", x.ways(0, 1), 1);
        due("ways(1, 1)", x.ways(1, 1), 0);
        due("ways(2, 1)", x.ways(2, 1), 1);
        due("ways(3, 1)", x.ways(3, 1), 0);
        due("home(1)", x.home(1), NONE);
        due("home(2)", x.home(2), 1);
        due("home(3)", x.home(3), NONE);
        due("ways(1, 10)", x.ways(1, 10), 0);
        due("ways(3, 10)", x.ways(3, 10), 0);
    }

    static void behindIsWhatSoundsDo() {
        sentence("Terms 3", "BEHIND it: which BOBBIN lies at a place.");
        for (int kind = 0; kind < 4; kind++) {
            BobbinTalk x = laid("n6;m" + kind + ",1,1345;");
            x.change(1, 4);
            for (String sounds : new String[] {"a", "b", "c", "d", "abcd", "dcba", "abcdabcd", "bbbbbbbc"}) {
                int foretold = liesBehind(x, 0, saying(sounds));
                for (int i = 0; i < sounds.length(); i++) {
                    x.say(sounds.charAt(i) - 'a');
                }
                due("lies behind " + sounds + " by kind " + kind, foretold, lies(x));
                times(x.count(4), x::unpick);
            }
        }
    }

    static void roundIs1AtLeast() {
        sentence("Terms 3", "ROUND: how often, 1 at least, the fewest, it is to be said so that all lie as now.");
        BobbinTalk x = laid("n6;m0,1,0125;m3,1,1250;");
        due("round of PIN", x.round(0, 1), 1);
        due("round of TWIST", x.round(0, 2), 2);
        due("round of TWIST, TWIST", x.round(0, saying("bb")), 1);
        due("round of eight PINS", x.round(0, saying("aaaaaaaa")), 1);
        due("round of HALF", x.round(0, 4), 2);
        due("round of TWIST twice", x.round(1, 1), 1);
    }

    static void roundIsTheFewest() {
        sentence("Terms 3", "ROUND: how often, 1 at least, the fewest, it is to be said so that all lie as now.");
        // TWIST, ACROSS leads each of n bobbins by all n places
        for (int n = 2; n <= 6; n++) {
            BobbinTalk x = laidReversed("n" + n + ";m0,1,3412;");
            due("round of TWIST, ACROSS of " + n, x.round(0, 1), n);
            due("round of ACROSS, TWIST of " + n, x.round(0, 2), n);
            due("round of it said in two of " + n, x.round(0, saying("cd")), n);
        }
        BobbinTalk x = laid("n6;m0,1,3000;");
        int[] want = {6, 3, 2, 3, 6, 1, 6, 3};
        String sounds = "";
        for (int times = 1; times <= 8; times++) {
            sounds += "a";
            due("round of TWIST, ACROSS " + times + " times", x.round(0, saying(sounds)), want[times - 1]);
        }
    }

    static void bringsTheShortestSaying() {
        sentence("Terms 3", "BRINGS for a MAKER, a BOBBIN, a place: of SAYINGS of 6 SOUNDS or fewer by which it would lie there, the shortest,");
        // c TWIST, d ACROSS: from one end to the other by as many sounds as there are places between (no place is
        // farther than five sounds, if it can be come to at all: 6 SOUNDS bound nothing that can be seen)
        String[] sounds = {"c", "cd", "cdc", "cdcd", "cdcdc"};
        for (int n = 2; n <= 6; n++) {
            BobbinTalk x = laid("n" + n + ";m0,1,0012;");
            for (int place = 1; place < n; place++) {
                due("brings(0, 0, " + place + ") of " + n, x.brings(0, 0, place), saying(sounds[place - 1]));
            }
        }
        BobbinTalk x = laid("n6;m0,1,0012;");
        due("brings(0, 1, 5)", x.brings(0, 1, 5), saying("dcdc"));
        due("brings(0, 5, 0)", x.brings(0, 5, 0), saying("cdcdc"));
        // by TWIST, ACROSS bobbin 0 goes to places 2, 4, 5, 3, 1 and home
        BobbinTalk y = laid("n6;m0,1,3000;");
        int[] places = {2, 4, 5, 3, 1};
        for (int i = 0; i < 5; i++) {
            due("brings(0, 0, " + places[i] + ") by a alone", y.brings(0, 0, places[i]), saying("aaaaa".substring(4 - i)));
        }
    }

    static void bringsOfSeveralTheLowest() {
        sentence("Terms 3", "of several the lowest;");
        due("a as b", laid("n2;m0,1,1111;").brings(0, 0, 1), 1);
        due("b as d", laid("n2;m0,1,0101;").brings(0, 0, 1), 2);
        due("c as d", laid("n2;m0,1,0011;").brings(0, 0, 1), 3);
        due("d alone", laid("n2;m0,1,0001;").brings(0, 0, 1), 4);
        // TWIST or HALF, then ACROSS
        due("ac ahead of bc", laid("n4;m0,1,5120;").brings(0, 0, 2), saying("ac"));
        due("ba ahead of ca", laid("n4;m0,1,2150;").brings(0, 0, 2), saying("ba"));
        due("da alone", laid("n4;m0,1,2001;").brings(0, 0, 2), saying("da"));
        due("d alone ahead of the lower aa", laid("n3;m0,1,3004;").brings(0, 0, 1), 4);
        due("aa, d being a PIN", laid("n3;m0,1,3000;").brings(0, 0, 1), saying("aa"));
    }

    static void brings0IfItLiesThereNow() {
        sentence("Terms 3", "0, if it lies there now;");
        BobbinTalk x = laid("n6;m0,1,0000;m0,1,1234;");
        for (int b = 0; b < 6; b++) {
            due("brings(0, " + b + ", " + b + ")", x.brings(0, b, b), 0);
            due("brings(1, " + b + ", " + b + ")", x.brings(1, b, b), 0);
        }
        x.change(0, 5);
        due("brings(0, 0, 5), changed", x.brings(0, 0, 5), 0);
        due("brings(0, 5, 0), changed", x.brings(0, 5, 0), 0);
        due("brings(0, 0, 0), changed", x.brings(0, 0, 0), NONE);
        due("brings(1, 5, 5), changed", x.brings(1, 5, 5) > 0 ? 1 : 0, 1);
    }

    static void bringsNone() {
        sentence("Terms 3", "0, if it lies there now; none.");
        BobbinTalk x = laid("n6;m0,1,1111;m0,1,2525;m3,1,1250;");
        due("brings(0, 0, 1) by TWIST", x.brings(0, 0, 1), 1);
        due("brings(0, 0, 2) by TWIST", x.brings(0, 0, 2), NONE);
        due("brings(0, 5, 0) by TWIST", x.brings(0, 5, 0), NONE);
        due("brings(1, 0, 2) by HALF, ACROSS", x.brings(1, 0, 2), saying("ba"));
        due("brings(1, 0, 3) by HALF, ACROSS", x.brings(1, 0, 3), NONE);
        due("brings(1, 5, 4) by HALF, ACROSS", x.brings(1, 5, 4), NONE);
        due("brings(2, 0, 1) by rows twice", x.brings(2, 0, 1), NONE);
    }

    static void homeIsTheFewestSounds() {
        sentence("Terms 3", "HOME for a MAKER: the fewest SOUNDS by which all would lie by number from the left;");
        BobbinTalk x = laid("n4;m0,1,1250;m0,1,0000;");
        due("home(0), all at home", x.home(0), 0);
        due("home(1), all at home", x.home(1), 0);
        x.say(0);
        due("home(0) behind a", x.home(0), 1);
        x.say(1);
        due("home(0) behind ab", x.home(0), 2);
        x.say(0);
        due("home(0) behind aba", x.home(0), 3);
        for (int n = 2; n <= 6; n++) {
            due("home(0) of all reversed, of " + n, laidReversed("n" + n + ";m0,1,1200;").home(0), n == 2 ? 1 : n);
        }
    }

    static void homeByTheOneWayRound() {
        sentence("Terms 3", "HOME for a MAKER: the fewest SOUNDS by which all would lie by number from the left;");
        // TWIST, ACROSS leads round by n lays, of which for n = 6 the fourth is 543210
        for (int n = 2; n <= 6; n++) {
            BobbinTalk x = laid("n" + n + ";m0,1,0300;");
            for (int said = 0; said <= n; said++) {
                due("home(0) behind " + said + " of " + n, x.home(0), (n - said) % n);
                x.say(1);
            }
        }
    }

    static void homeOf18Sounds() {
        sentence("Terms 3", "HOME for a MAKER: the fewest SOUNDS by which all would lie by number from the left;");
        // of all 720 lays this one is the farthest from home by TWIST, ACROSS and HALF; no bound is told
        BobbinTalk x = laid("n6;m0,1,0035;");
        x.change(0, 1);
        x.change(0, 2);
        x.change(0, 3);
        x.change(4, 5);
        due("lies", lies(x), 123054);
        due("home(0)", x.home(0), 18);
        BobbinTalk y = laid("n5;m0,1,0035;");
        y.change(2, 3);
        y.change(2, 4);
        due("lies", lies(y), 1342);
        due("home(0) of five", y.home(0), 11);
    }

    static void homeNone() {
        sentence("Terms 3", "none (whatever is said they do not).");
        BobbinTalk x = laid("n4;m0,1,1250;m0,1,1111;m3,1,1250;m0,1,0000;");
        x.change(0, 1);
        due("home(0)", x.home(0), 1);
        due("home(1) by TWIST", x.home(1), NONE);
        due("home(2) by rows twice", x.home(2), NONE);
        due("home(3) by PINS", x.home(3), NONE);
        x.change(2, 3);
        due("home(1) by TWIST", x.home(1), 1);
        due("home(3) by PINS", x.home(3), NONE);
        x.change(0, 1);
        x.change(2, 3);
        due("home(3) by PINS, all at home", x.home(3), 0);
    }

    static void homeNoneBehindALongWay() {
        sentence("Terms 3", "none (whatever is said they do not).");
        BobbinTalk x = laid("n4;m0,1,0035;m0,1,0000;m0,1,2222;");
        for (int i = 0; i < 32; i++) {
            int lay = lies(x);
            due("home(0) is told, of " + lay, x.home(0) >= 0 ? 1 : 0, 1);
            due("home(1) by PINS, of " + lay, x.home(1), lay == 123 ? 0 : NONE);
            due("home(0) is told, of " + lay, x.home(0) >= 0 ? 1 : 0, 1);
            due("home(2) by ACROSS, of " + lay, x.home(2), lay == 123 ? 0 : lay == 213 ? 1 : NONE);
            x.change(i % 4, (i + 1 + i / 4 % 3) % 4);
        }
    }

    // ---- the terms: ways, alike, deal

    static void waysOf0To10Sounds() {
        sentence("Terms 3", "WAYS for a MAKER, n (0 to 10):");
        BobbinTalk x = laid("n2;m0,1,0000;m0,1,1200;");
        int all = 1;
        for (int n = 0; n <= 10; n++) {
            // each row of sounds by PINS; of a and three that leave two as they are: (4^n + 2^n) / 2
            due("ways(0, " + n + ")", x.ways(0, n), all);
            due("ways(1, " + n + ")", x.ways(1, n), (all + (1 << n)) / 2);
            all *= 4;
        }
        x.change(0, 1);
        all = 1;
        for (int n = 0; n <= 10; n++) {
            due("ways(0, " + n + "), changed", x.ways(0, n), 0);
            due("ways(1, " + n + "), changed", x.ways(1, n), (all - (1 << n)) / 2);
            all *= 4;
        }
        for (int n : new int[] {-1, 11, 12, LOWEST, HIGHEST}) {
            due("ways(0, " + n + ")", x.ways(0, n), BAD);
        }
    }

    static void waysAreFromByNumberToNow() {
        sentence("Terms 3", "how many rows of n SOUNDS by him would bring BOBBINS that lie by number to how they lie now.");
        // a leads all three round one way: by one sound there, by two back again
        BobbinTalk x = laid("n3;m0,1,3000;");
        x.say(0);
        due("lies", lies(x), 120);
        due("ways(0, 1)", x.ways(0, 1), 1);
        due("home(0)", x.home(0), 2);
        x.say(0);
        due("lies", lies(x), 201);
        due("ways(0, 1)", x.ways(0, 1), 0);
        due("ways(0, 2)", x.ways(0, 2), 1);
        due("home(0)", x.home(0), 1);
        // two and five sounds of a, the others PINS of three: one of 2; 10 * 27 of 5, and 1
        due("ways(0, 5)", x.ways(0, 5), 271);
    }

    static void waysOfAWayRound() {
        sentence("Terms 3", "how many rows of n SOUNDS by him would bring BOBBINS that lie by number to how they lie now.");
        BobbinTalk y = laid("n3;m0,1,1122;");
        y.say(0);
        y.say(2);
        due("ways(0, 2)", y.ways(0, 2), 4);
        due("ways(0, 3)", y.ways(0, 3), 0);
        // a way round by six lays: 5 of the 16 walks of four steps end two steps on; each step is one of two sounds
        due("ways(0, 4)", y.ways(0, 4), 5 * 16);
        // a way round by twelve lays: half round by six steps, this way or that; a PIN of two at seven places between
        BobbinTalk z = laidReversed("m0,1,1200;");
        due("ways(0, 5) half round", z.ways(0, 5), 0);
        due("ways(0, 6) half round", z.ways(0, 6), 2);
        due("ways(0, 7) half round", z.ways(0, 7), 28);
    }

    static void waysOfTheOneWayRound() {
        sentence("Terms 3", "how many rows of n SOUNDS by him would bring BOBBINS that lie by number to how they lie now.");
        // TWIST, ACROSS leads round by six lays: rows of n sounds by which it is made as often as now, or six times more
        BobbinTalk x = laid("n6;m0,1,0030;");
        for (int said = 0; said < 6; said++) {
            for (int n = 0; n <= 10; n++) {
                int want = 0;
                for (int often = said; often <= n; often += 6) {
                    want += rowsWith(often, n);
                }
                due("ways(0, " + n + ") behind " + said, x.ways(0, n), want);
            }
            x.say(2);
        }
    }

    /** Of n sounds, often of them the one and the others any of three. */
    private static int rowsWith(int often, int n) {
        if (often < 0 || often > n) {
            return 0;
        }
        return n == 0 ? 1 : rowsWith(often - 1, n - 1) + 3 * rowsWith(often, n - 1);
    }

    static void alikeBy2Sayings() {
        sentence("Terms 3", "ALIKE: 1, if by two SAYINGS of a MAKER all BOBBINS would lie alike, 0.");
        BobbinTalk x = laid("n4;m0,1,1234;m2,1,1234;m0,1,0005;");
        due("ab as c", x.alike(0, 7, 3), 1);
        due("c as ab", x.alike(0, 3, 7), 1);
        due("ba as d", x.alike(0, 11, 4), 1);
        due("ab as d", x.alike(0, 7, 4), 0);
        due("aa as bb", x.alike(0, 6, 12), 1);
        due("a as a", x.alike(0, 1, 1), 1);
        due("a as b", x.alike(0, 1, 2), 0);
        due("a as c, hasty", x.alike(1, 1, 3), 1);
        due("ab as c, hasty", x.alike(1, 7, 3), 0);
        // by HALF two of four lie as they did: all are wanted
        due("a as d, two of four alike", x.alike(2, 1, 4), 0);
        x.change(0, 3);
        due("ab as c, changed", x.alike(0, 7, 3), 1);
        due("aaaaaaaa as bb", x.alike(0, 97656, 12), 1);
        due("dddddddd as a, of eight sounds", x.alike(2, 390624, 1), 1);
    }

    static void alikeAllBobbins() {
        sentence("Terms 3", "ALIKE: 1, if by two SAYINGS of a MAKER all BOBBINS would lie alike, 0.");
        // a and b lead round one way and the other; c between them changes two bobbins alone, at each time others
        BobbinTalk x = laid("n6;m0,1,3450;m1,1,3450;");
        for (int m = 0; m < 2; m++) {
            for (String sounds : new String[] {"c", "acb", "aacbb", "aaacbbb", "bca", "bbcaa"}) {
                due("round of " + sounds, x.round(m, saying(sounds)), 2);
                due(sounds + " as a PIN", x.alike(m, saying(sounds), 4), 0);
                due("a PIN as " + sounds, x.alike(m, 4, saying(sounds)), 0);
                due(sounds + " as itself", x.alike(m, saying(sounds), saying(sounds)), 1);
            }
            due("ab as a PIN", x.alike(m, saying("ab"), 4), 1);
            due("aaabbb as cc", x.alike(m, saying("aaabbb"), saying("cc")), 1);
        }
        due("acb as c", x.alike(0, saying("acb"), 3), 0);
        due("aacbb as acb", x.alike(0, saying("aacbb"), saying("acb")), 0);
    }

    static void homeAndWaysOfAllBobbins() {
        sentence("Terms 3", "none (whatever is said they do not).");
        BobbinTalk x = laid("n6;m0,1,0000;");
        for (int b = 0; b < 6; b++) {
            for (int c = b + 1; c < 6; c++) {
                x.change(b, c);
                due("home(0), " + b + " and " + c + " changed", x.home(0), NONE);
                due("ways(0, 0), " + b + " and " + c + " changed", x.ways(0, 0), 0);
                due("ways(0, 1), " + b + " and " + c + " changed", x.ways(0, 1), 0);
                due("count(5), " + b + " and " + c + " changed", x.count(5), 4);
                x.change(c, b);
                due("home(0), changed again", x.home(0), 0);
                due("ways(0, 0), changed again", x.ways(0, 0), 1);
            }
        }
    }

    private static void dealt(String letters, int minutes, int... makers) {
        BobbinTalk x = laid(letters);
        due("deal(-1) of " + letters, x.deal(-1), minutes);
        for (int k = 0; k < makers.length; k++) {
            due("deal(" + k + ") of " + letters, x.deal(k), makers[k]);
        }
        due("deal(" + makers.length + ") of " + letters, x.deal(makers.length), BAD);
        due("deal(-1), once more", x.deal(-1), minutes);
    }

    static void dealRowsTimesMinutes() {
        sentence("Terms 3", "DEAL: each ORDER is made by one MAKER, his ORDERS one behind the other, ROWS times P minutes each:");
        dealt("m0,1,0000;o1;", 1, 0);
        dealt("m0,9,0000;o60;", 540, 0);
        dealt("m0,9,0000;o60;o60;o60;o60;o60;o60;", 3240, 0, 0, 0, 0, 0, 0);
        dealt("m0,7,0000;o3;o5;", 56, 0, 0);
        dealt("m3,7,0000;o3;", 21, 0);
        dealt("m0,3,0000;", 0);
        dealt("m0,3,0000;m0,1,0000;m0,1,0000;m0,1,0000;", 0);
    }

    static void dealDoneFirst() {
        sentence("Terms 3", "of all ways that by which all are done first,");
        dealt("m0,2,0000;m0,1,0000;o10;", 10, 1);
        dealt("m0,9,0000;m0,1,0000;o1;o1;", 2, 1, 1);
        // one order of two rows by maker 0 in 4 minutes, the rest by 1 in 6; order 1 ahead of order 2
        dealt("m0,2,0000;m0,1,0000;o4;o2;o2;", 6, 1, 0, 1);
        dealt("m0,3,0000;m0,2,0000;m0,1,0000;o6;o4;o3;", 9, 2, 1, 0);
        dealt("m0,9,0000;m0,9,0000;m0,9,0000;m0,9,0000;o60;o60;o60;o60;o60;o60;", 1080, 0, 0, 1, 1, 2, 2);
        // halves of 3 + 3 + 2 + 2 + 2 minutes: the two of three go together
        dealt("m0,1,0000;m0,1,0000;o3;o3;o2;o2;o2;", 6, 0, 0, 1, 1, 1);
    }

    static void dealOfSeveralTheFirst() {
        sentence("Terms 3", "of several the first (by who makes ORDER 0, the lowest ahead, then 1, ..):");
        dealt("m0,3,0000;m0,3,0000;o5;", 15, 0);
        dealt("m0,3,0000;m0,3,0000;m0,3,0000;m0,3,0000;o5;o5;", 15, 0, 1);
        dealt("m0,1,0000;m0,1,0000;o5;o5;o10;", 10, 0, 0, 1);
        // maker 0 may do all small ones while maker 1 makes the long one
        dealt("m0,1,0000;m0,1,0000;o1;o1;o1;o9;", 9, 0, 0, 0, 1);
        dealt("m0,1,0000;m0,1,0000;m0,1,0000;m0,1,0000;o9;o1;o1;o1;o1;o1;", 9, 0, 1, 1, 1, 1, 1);
        dealt("m0,1,0000;m0,1,0000;o9;o9;o9;o1;", 18, 0, 0, 1, 1);
        // the last order alone is free: of makers 0 and 1 with time left the lower
        dealt("m0,1,0000;m0,1,0000;m0,1,0000;o6;o6;o9;o1;", 9, 0, 1, 2, 0);
    }

    static void dealInHowManyMinutesAndWho() {
        sentence("Terms 3", "in how many minutes; who makes the k-th.");
        BobbinTalk x = new BobbinTalk();
        int[] want = {25, 1, 0, 2, 2};
        for (int k = -1; k < 4; k++) {
            due("deal(" + k + ") at first", x.deal(k), want[k + 1]);
        }
        x.sit(3);
        x.say(0);
        due("deal(-1), whoever sits there", x.deal(-1), 25);
    }

    // ---- promises 17 to 23

    static void behindRefused() {
        sentence("Promise 17", "BEHIND. BAD.");
        int[][] wrong = {{-1, 1, 0}, {2, 1, 0}, {0, 0, 0}, {0, 5, 0}, {0, 390625, 0}, {0, -1, 0}, {0, 1, -1}, {0, 1, 4}, {2, 0, 4},
            {LOWEST, 1, 0}, {HIGHEST, 1, 0}, {0, LOWEST, 0}, {0, HIGHEST, 0}, {0, 1, LOWEST}, {0, 1, HIGHEST}};
        for (int[] w : wrong) {
            refused(BUSY, BAD, "behind(" + w[0] + ", " + w[1] + ", " + w[2] + ")", x -> x.behind(w[0], w[1], w[2]));
        }
        // bobbins lie 3210 there, and d is a PIN of maker 0
        answersAndChangesNothing(BUSY, 3, "behind(0, 390624, 0)", x -> x.behind(0, 390624, 0));
    }

    static void behindOfEachNumberThereIs() {
        sentence("Promise 17", "BEHIND. BAD.");
        String makers = "";
        for (int many = 1; many <= 4; many++) {
            makers += "m0,1,0000;";
            for (int n = 2; n <= 6; n++) {
                BobbinTalk x = laid("n" + n + ";" + makers);
                due("behind(last, 1, last)", x.behind(many - 1, 1, n - 1), n - 1);
                due("behind(none, 1, last)", x.behind(many, 1, n - 1), BAD);
                due("behind(last, 1, none)", x.behind(many - 1, 1, n), BAD);
            }
        }
    }

    static void roundRefused() {
        sentence("Promise 18", "ROUND. BAD.");
        int[][] wrong = {{-1, 1}, {2, 1}, {0, 0}, {0, 5}, {0, 390625}, {0, -1}, {2, 0}, {LOWEST, 1}, {HIGHEST, 1}, {0, LOWEST}, {0, HIGHEST}};
        for (int[] w : wrong) {
            refused(BUSY, BAD, "round(" + w[0] + ", " + w[1] + ")", x -> x.round(w[0], w[1]));
        }
        answersAndChangesNothing(BUSY, 4, "round(0, 7)", x -> x.round(0, 7));
        answersAndChangesNothing(BUSY, 1, "round(0, 390624)", x -> x.round(0, 390624));
    }

    static void bringsRefused() {
        sentence("Promise 19", "BRINGS. NONE; BAD.");
        int[][] wrong = {{-1, 0, 0}, {2, 0, 0}, {0, -1, 0}, {0, 4, 0}, {0, 0, -1}, {0, 0, 4}, {2, 4, 4}, {0, 4, 4}, {-1, 0, 1},
            {LOWEST, 0, 0}, {HIGHEST, 0, 0}, {0, LOWEST, 0}, {0, HIGHEST, 0}, {0, 0, LOWEST}, {0, 0, HIGHEST}};
        for (int[] w : wrong) {
            refused(BUSY, BAD, "brings(" + w[0] + ", " + w[1] + ", " + w[2] + ")", x -> x.brings(w[0], w[1], w[2]));
        }
    }

    static void bringsNoneAndBad() {
        sentence("Promise 19", "BRINGS. NONE; BAD.");
        Calls pins = laying("n4;m0,1,0000;");
        refused(pins, NONE, "brings(0, 0, 3)", x -> x.brings(0, 0, 3));
        refused(pins, NONE, "brings(0, 3, 0)", x -> x.brings(0, 3, 0));
        refused(pins, BAD, "brings(1, 0, 3)", x -> x.brings(1, 0, 3));
        refused(pins, BAD, "brings(0, 0, 4)", x -> x.brings(0, 0, 4));
        refused(pins, BAD, "brings(0, 4, 0)", x -> x.brings(0, 4, 0));
        answersAndChangesNothing(pins, 0, "brings(0, 3, 3)", x -> x.brings(0, 3, 3));
    }

    static void homeRefused() {
        sentence("Promise 20", "HOME. NONE; BAD.");
        for (int m : new int[] {-1, 2, 3, LOWEST, HIGHEST}) {
            refused(BUSY, BAD, "home(" + m + ")", x -> x.home(m));
        }
        Calls pins = x -> {
            write(x, "n4;m0,1,0000;");
            x.lay();
            x.change(1, 2);
        };
        refused(pins, NONE, "home(0)", x -> x.home(0));
        refused(pins, BAD, "home(1), though none", x -> x.home(1));
        answersAndChangesNothing(x -> {
        }, 0, "home(3)", x -> x.home(3));
    }

    static void waysRefused() {
        sentence("Promise 21", "WAYS. BAD.");
        int[][] wrong = {{-1, 0}, {2, 0}, {0, -1}, {0, 11}, {2, 11}, {LOWEST, 0}, {HIGHEST, 0}, {0, LOWEST}, {0, HIGHEST}};
        for (int[] w : wrong) {
            refused(BUSY, BAD, "ways(" + w[0] + ", " + w[1] + ")", x -> x.ways(w[0], w[1]));
        }
        answersAndChangesNothing(BUSY, 0, "ways(0, 0)", x -> x.ways(0, 0));
        answersAndChangesNothing(x -> {
        }, 1, "ways(0, 0) of a new object", x -> x.ways(0, 0));
    }

    static void alikeRefused() {
        sentence("Promise 22", "ALIKE. BAD.");
        int[][] wrong = {{-1, 1, 1}, {2, 1, 1}, {0, 0, 1}, {0, 1, 0}, {0, 5, 1}, {0, 1, 5}, {0, 390625, 1}, {0, 1, 390625}, {0, 0, 0},
            {0, 5, 5}, {2, 0, 0}, {0, -1, -1}, {LOWEST, 1, 1}, {HIGHEST, 1, 1}, {0, LOWEST, 1}, {0, HIGHEST, HIGHEST}};
        for (int[] w : wrong) {
            refused(BUSY, BAD, "alike(" + w[0] + ", " + w[1] + ", " + w[2] + ")", x -> x.alike(w[0], w[1], w[2]));
        }
        answersAndChangesNothing(BUSY, 1, "alike(1, 390624, 1)", x -> x.alike(1, 390624, saying("ccdd")));
    }

    static void dealRefused() {
        sentence("Promise 23", "DEAL: in how many minutes (k = -1), who makes the k-th. BAD (an ORDER that there is not).");
        for (int k : new int[] {-2, 2, 3, 6, LOWEST, HIGHEST}) {
            refused(BUSY, BAD, "deal(" + k + ")", x -> x.deal(k));
        }
        answersAndChangesNothing(BUSY, 60, "deal(-1)", x -> x.deal(-1));
        answersAndChangesNothing(BUSY, 1, "deal(0)", x -> x.deal(0));
        answersAndChangesNothing(BUSY, 0, "deal(1)", x -> x.deal(1));
        String letters = "m0,1,0000;";
        due("deal(0) of no order", laid(letters).deal(0), BAD);
        due("deal(-1) of no order", laid(letters).deal(-1), 0);
        due("deal(-2) of no order", laid(letters).deal(-2), BAD);
        for (int many = 1; many <= 6; many++) {
            letters += "o1;";
            BobbinTalk x = laid(letters);
            due("deal(last) of " + many, x.deal(many - 1), 0);
            due("deal(one more) of " + many, x.deal(many), BAD);
            due("deal(-1) of " + many, x.deal(-1), many);
        }
    }
}
