/** Part 2 of the terms and promises 11 to 16: what BOBBINS do by each ROW, and what is done at the pillow. */
public final class RowSentences extends Sentences {
    public static void main(String[] args) throws Exception {
        runAll(RowSentences.class);
    }

    // ---- the terms: rows

    /** How 2 to 6 BOBBINS that lie by number come to lie by a ROW, said and foretold, by a MAKER of that KIND. */
    private static void rowOf(int kind, int row, int... want) {
        for (int n = 2; n <= 6; n++) {
            BobbinTalk x = laid("n" + n + ";m" + kind + ",1,000" + row + ";");
            String by = "row " + row + " by kind " + kind + " of " + n;
            due("lies behind, foretold, " + by, liesBehind(x, 0, 4), want[n - 2]);
            due("say(3), " + by, x.say(3), row);
            due("lies, " + by, lies(x), want[n - 2]);
        }
    }

    static void atFirstByNumber() {
        sentence("Terms 2", "BOBBINS lie side by side at places 0, 1, .. from the left, at first by number.");
        for (int n = 2; n <= 6; n++) {
            BobbinTalk x = laid("n" + n + ";m0,1,1234;");
            for (int p = 0; p < n; p++) {
                due("at(" + p + ") of " + n, x.at(p), p);
                due("bobbin(" + p + ", 0) of " + n, x.bobbin(p, 0), p);
            }
            due("at(" + n + ") of " + n, x.at(n), BAD);
        }
    }

    static void pin() {
        sentence("Terms 2", "A ROW is 0 PIN: all stay;");
        rowOf(0, 0, 1, 12, 123, 1234, 12345);
    }

    static void twist() {
        sentence("Terms 2", "1 TWIST: those at places 0 and 1 change, those at 2 and 3, those at 4 and 5, as far as there are both;");
        rowOf(0, 1, 10, 102, 1032, 10324, 103254);
    }

    static void across() {
        sentence("Terms 2", "2 ACROSS: those at 1 and 2, those at 3 and 4, likewise;");
        rowOf(0, 2, 1, 21, 213, 2143, 21435);
    }

    static void twistThenAcross() {
        sentence("Terms 2", "3 TWIST, then ACROSS;");
        rowOf(0, 3, 10, 120, 1302, 13042, 130524);
    }

    static void acrossThenTwist() {
        sentence("Terms 2", "4 ACROSS, then TWIST;");
        rowOf(0, 4, 10, 201, 2031, 20413, 204153);
    }

    static void half() {
        sentence("Terms 2", "5 HALF: those at 0 and 1.");
        rowOf(0, 5, 10, 102, 1023, 10234, 102345);
    }

    static void leftHanded() {
        sentence("Terms 2", "A LEFT-HANDED MAKER makes it with places told from the right;");
        rowOf(1, 0, 1, 12, 123, 1234, 12345);
        rowOf(1, 1, 10, 21, 1032, 2143, 103254);
        rowOf(1, 2, 1, 102, 213, 10324, 21435);
        rowOf(1, 3, 10, 201, 1302, 20413, 130524);
        rowOf(1, 4, 10, 120, 2031, 13042, 204153);
        rowOf(1, 5, 10, 21, 132, 1243, 12354);
    }

    static void hasty() {
        sentence("Terms 2", "a HASTY one makes 3 as TWIST alone, 4 as ACROSS alone;");
        rowOf(2, 0, 1, 12, 123, 1234, 12345);
        rowOf(2, 1, 10, 102, 1032, 10324, 103254);
        rowOf(2, 2, 1, 21, 213, 2143, 21435);
        rowOf(2, 3, 10, 102, 1032, 10324, 103254);
        rowOf(2, 4, 1, 21, 213, 2143, 21435);
        rowOf(2, 5, 10, 102, 1023, 10234, 102345);
    }

    static void careful() {
        sentence("Terms 2", "a CAREFUL one makes each one twice, one behind the other.");
        rowOf(3, 0, 1, 12, 123, 1234, 12345);
        rowOf(3, 1, 1, 12, 123, 1234, 12345);
        rowOf(3, 2, 1, 12, 123, 1234, 12345);
        // of six: 130524, TWIST 315042, ACROSS 351402; 204153, ACROSS 240513, TWIST 425031
        rowOf(3, 3, 1, 201, 3210, 34120, 351402);
        rowOf(3, 4, 1, 120, 3210, 42301, 425031);
        rowOf(3, 5, 1, 12, 123, 1234, 12345);
    }

    // ---- the terms: what is done

    static void atFirstMaker0() {
        sentence("Terms 2", "At first MAKER 0 sits at the pillow, and no ROW is MADE.");
        BobbinTalk x = laid("n4;m0,1,1234;m1,1,5555;");
        due("count(3)", x.count(3), 0);
        due("count(4)", x.count(4), 0);
        due("unpick()", x.unpick(), NO);
        due("say(0)", x.say(0), 1);
        due("made(0, 1)", x.made(0, 1), 0);
    }

    static void soundIsTheRowOfWhoSits() {
        sentence("Terms 2", "By a SOUND the one who sits there makes the ROW that it is for him; it is MADE (24 at most).");
        BobbinTalk x = laid("n4;m0,1,1234;m1,1,5010;m2,1,4321;m3,1,3003;");
        int[][] rows = {{1, 2, 3, 4}, {5, 0, 1, 0}, {4, 3, 2, 1}, {3, 0, 0, 3}};
        for (int m = 0; m < 4; m++) {
            x.sit(m);
            for (int sound = 0; sound < 4; sound++) {
                due("say(" + sound + ") by " + m, x.say(sound), rows[m][sound]);
                due("made(last, 0)", x.made(m * 4 + sound, 0), rows[m][sound]);
                due("made(last, 1)", x.made(m * 4 + sound, 1), m);
            }
        }
    }

    static void twentyFourRowsMadeAtMost() {
        sentence("Terms 2", "By a SOUND the one who sits there makes the ROW that it is for him; it is MADE (24 at most).");
        BobbinTalk x = laid("n2;m0,1,1000;");
        for (int i = 0; i < 24; i++) {
            due("say(0) of " + (i + 1), x.say(0), 1);
            due("count(4)", x.count(4), i + 1);
            due("at(0)", x.at(0), (i + 1) % 2);
        }
        due("say(0) of 25", x.say(0), FULL);
        due("at(0)", x.at(0), 0);
        due("unpick()", x.unpick(), 23);
        due("say(0) of 24, once more", x.say(0), 1);
        due("say(0) of 25, once more", x.say(0), FULL);
        due("cut()", x.cut(), 24);
        due("say(0) of one", x.say(0), 1);
    }

    static void unpickedLieAsAheadOfTheRow() {
        sentence("Terms 2", "The last ROW MADE is UNPICKED: BOBBINS lie as they did ahead of it, whatever was done since.");
        BobbinTalk x = laid("n4;m0,1,1234;m1,1,5555;");
        x.change(0, 1);
        x.say(0);
        due("lies", lies(x), 132);
        x.change(0, 3);
        x.sit(1);
        x.say(0);
        due("lies, from the right", lies(x), 3120);
        due("unpick()", x.unpick(), 1);
        due("lies", lies(x), 3102);
        due("count(3), he who sat down since", x.count(3), 1);
        x.change(1, 2);
        due("unpick()", x.unpick(), 0);
        due("lies, none of what was changed since", lies(x), 1023);
        due("count(3), he who sat down since", x.count(3), 1);
        due("unpick()", x.unpick(), NO);
    }

    static void unpickedAll24() {
        sentence("Terms 2", "The last ROW MADE is UNPICKED: BOBBINS lie as they did ahead of it, whatever was done since.");
        BobbinTalk x = laid("n6;m0,1,1234;");
        int[] lay = new int[25];
        for (int i = 0; i < 24; i++) {
            lay[i] = lies(x);
            x.say(i % 3);
        }
        for (int i = 23; i >= 0; i--) {
            due("unpick()", x.unpick(), i);
            due("lies", lies(x), lay[i]);
        }
        due("unpick() of none", x.unpick(), NO);
    }

    static void heWhoSitsThereSitsDownToo() {
        sentence("Terms 2", "A MAKER (he who sits there, too) sits down.");
        BobbinTalk x = laid("n4;m0,1,1234;m1,1,5555;");
        due("sit(0) of 0", x.sit(0), 0);
        due("count(7), it can be undone", x.count(7), 1);
        due("sit(1) of 0", x.sit(1), 0);
        due("sit(1) of 1", x.sit(1), 1);
        due("count(7)", x.count(7), 3);
        due("undo()", x.undo(), 2);
        due("count(3)", x.count(3), 1);
        due("undo()", x.undo(), 1);
        due("count(3)", x.count(3), 0);
    }

    static void changedBobbinsMakeNoRow() {
        sentence("Terms 2", "Two BOBBINS are CHANGED (no ROW is MADE by that).");
        BobbinTalk x = laid("n6;m0,1,1234;");
        x.change(0, 5);
        due("lies", lies(x), 512340);
        due("count(4)", x.count(4), 0);
        due("made(0, 0)", x.made(0, 0), NONE);
        due("unpick()", x.unpick(), NO);
        x.say(0);
        x.change(2, 4);
        due("lies", lies(x), 153402);
        due("count(4)", x.count(4), 1);
        for (int i = 1; i < 24; i++) {
            x.say(i % 4);
        }
        due("change(0, 1) of 24 rows", x.change(0, 1) >= 0 ? 1 : 0, 1);
        due("count(4)", x.count(4), 24);
    }

    static void cutOffBobbinsStay() {
        sentence("Terms 2", "The lace is CUT OFF: no ROW is MADE any more, BOBBINS stay.");
        BobbinTalk x = laid("n4;m0,1,1234;m1,1,5555;");
        x.sit(1);
        x.say(0);
        x.sit(0);
        x.say(1);
        int lay = lies(x);
        due("lies", lay, 312);
        due("cut()", x.cut(), 2);
        due("lies", lies(x), lay);
        due("count(3)", x.count(3), 0);
        due("count(4)", x.count(4), 0);
        due("made(0, 0)", x.made(0, 0), NONE);
        due("unpick()", x.unpick(), NO);
        x.say(0);
        due("made(0, 0)", x.made(0, 0), 1);
        due("unpick()", x.unpick(), 0);
        due("lies", lies(x), lay);
    }

    private static final String[] DONE = {"say", "unpick", "sit", "change", "cut"};

    private static void doIt(BobbinTalk x, int what) {
        switch (what) {
            case 0: x.say(0); break;
            case 1: x.unpick(); break;
            case 2: x.sit(1 - x.count(3)); break;
            case 3: x.change(0, 1); break;
            default: x.cut(); break;
        }
    }

    static void eachOfTheseIsUndone() {
        sentence("Terms 2", "UNDONE are the latest of these (the last 8 can be).");
        for (int what = 0; what < DONE.length; what++) {
            BobbinTalk x = laid("n4;m0,1,1234;m1,1,5555;");
            x.say(1);
            x.say(2);
            int lay = lies(x);
            doIt(x, what);
            due("count(7) behind " + DONE[what], x.count(7), 3);
            due("undo() of " + DONE[what], x.undo(), 2);
            due("lies", lies(x), lay);
            due("count(3)", x.count(3), 0);
            due("count(4)", x.count(4), 2);
            due("made(0, 0)", x.made(0, 0), 2);
            due("made(1, 0)", x.made(1, 0), 3);
            due("unpick()", x.unpick(), 1);
            due("lies, unpicked", lies(x), 213);
        }
    }

    static void theLast8CanBeUndone() {
        sentence("Terms 2", "UNDONE are the latest of these (the last 8 can be).");
        for (int many = 0; many <= 12; many++) {
            BobbinTalk x = laid("n2;m0,1,1000;m1,1,1000;");
            int[][] ahead = new int[many][];
            for (int i = 0; i < many; i++) {
                ahead[i] = new int[] {lies(x), x.count(3), x.count(4)};
                doIt(x, i % DONE.length);
            }
            int can = Math.min(many, 8);
            due("count(7) of " + many, x.count(7), can);
            for (int left = can - 1; left >= 0; left--) {
                due("undo() of " + many, x.undo(), left);
                int[] was = ahead[many - can + left];
                due("lies", lies(x), was[0]);
                due("count(3)", x.count(3), was[1]);
                due("count(4)", x.count(4), was[2]);
                due("count(7)", x.count(7), left);
            }
            due("undo() of one more than " + can, x.undo(), NO);
        }
    }

    static void undoneIsNoneOfThese() {
        sentence("Terms 2", "UNDONE are the latest of these (the last 8 can be).");
        BobbinTalk x = laid("n4;m0,1,1234;");
        x.say(0);
        x.say(1);
        due("undo()", x.undo(), 1);
        due("undo(), of the say ahead, not of the undo", x.undo(), 0);
        due("undo()", x.undo(), NO);
        due("count(4)", x.count(4), 0);
        x.say(2);
        due("count(7)", x.count(7), 1);
        due("undo() of the say behind the undos", x.undo(), 0);
        due("lies", lies(x), 123);
    }

    static void otherCallsAreNoneOfThese() {
        sentence("Terms 2", "UNDONE are the latest of these (the last 8 can be).");
        BobbinTalk x = laid("n4;m0,1,1234;m1,1,5555;");
        x.say(0);
        x.keep();
        x.see(3);
        x.forget();
        x.write('x');
        x.wipe();
        x.lay();
        x.winter(0, 60, 1);
        x.behind(0, 7, 0);
        x.home(0);
        x.deal(-1);
        due("count(7)", x.count(7), 1);
        due("undo()", x.undo(), 0);
        due("count(4), said no more", x.count(4), 0);
        due("count(8), kept still", x.count(8), 1);
    }

    // ---- promise 11

    static void sayEachSound() {
        sentence("Promise 11", "A SOUND (0 a, to 3 d) is said: the ROW that is MADE.");
        BobbinTalk x = laid("n4;m0,1,1405;");
        due("say(0)", x.say(0), 1);
        due("lies", lies(x), 1032);
        due("say(1)", x.say(1), 4);
        due("lies", lies(x), 3120);
        due("say(2)", x.say(2), 0);
        due("lies", lies(x), 3120);
        due("say(3)", x.say(3), 5);
        due("lies", lies(x), 1320);
        due("say(2) by a hasty one is the row told", laid("m2,1,0030;").say(2), 3);
    }

    static void sayRefused() {
        sentence("Promise 11", "BAD; FULL.");
        for (int sound : new int[] {-1, 4, 5, LOWEST, HIGHEST}) {
            refused(BUSY, BAD, "say(" + sound + ")", x -> x.say(sound));
        }
        Calls full = x -> {
            write(x, "n4;m0,1,1234;m1,1,5555;");
            x.lay();
            for (int i = 0; i < 24; i++) {
                x.sit(i % 2);
                x.say(i % 4);
            }
        };
        for (int sound = 0; sound < 4; sound++) {
            int one = sound;
            refused(full, FULL, "say(" + sound + ") of 25", x -> x.say(one));
        }
        refused(full, BAD, "say(4) of 25", x -> x.say(4));
        refused(full, BAD, "say(-1) of 25", x -> x.say(-1));
    }

    // ---- promise 12

    static void unpickTellsHowManyAreLeft() {
        sentence("Promise 12", "The last ROW is UNPICKED: how many are left.");
        BobbinTalk x = laid("n4;m0,1,1234;");
        x.say(0);
        x.say(1);
        x.say(2);
        due("unpick()", x.unpick(), 2);
        due("made(1, 0)", x.made(1, 0), 2);
        due("made(2, 0)", x.made(2, 0), NONE);
        due("unpick()", x.unpick(), 1);
        due("unpick()", x.unpick(), 0);
        due("count(4)", x.count(4), 0);
        due("lies", lies(x), 123);
    }

    static void unpickRefused() {
        sentence("Promise 12", "NO: none.");
        refused(x -> {
        }, NO, "unpick() of a new object", BobbinTalk::unpick);
        refused(x -> {
            BUSY.on(x);
            x.cut();
        }, NO, "unpick() of what is cut off", BobbinTalk::unpick);
        refused(x -> {
            BUSY.on(x);
            x.unpick();
            x.unpick();
        }, NO, "unpick() of what is unpicked", BobbinTalk::unpick);
    }

    // ---- promise 13

    static void sitTellsWhoSat() {
        sentence("Promise 13", "A MAKER sits down: who sat there. BAD.");
        BobbinTalk x = laid("n4;m0,1,0000;m0,1,1111;m0,1,2222;m0,1,5555;");
        due("sit(3)", x.sit(3), 0);
        due("sit(1)", x.sit(1), 3);
        due("sit(1)", x.sit(1), 1);
        due("sit(2)", x.sit(2), 1);
        due("sit(0)", x.sit(0), 2);
        due("count(3)", x.count(3), 0);
        x.sit(3);
        due("say(0)", x.say(0), 5);
        due("lies", lies(x), 1023);
    }

    static void sitRefused() {
        sentence("Promise 13", "A MAKER sits down: who sat there. BAD.");
        for (int m : new int[] {-1, 2, 3, 4, LOWEST, HIGHEST}) {
            refused(BUSY, BAD, "sit(" + m + ")", x -> x.sit(m));
        }
        String letters = "";
        for (int many = 1; many <= 4; many++) {
            letters += "m0,1,1234;";
            due("sit(" + many + ") of " + many, laid(letters).sit(many), BAD);
            due("sit(" + (many - 1) + ") of " + many, laid(letters).sit(many - 1), 0);
        }
    }

    // ---- promise 14

    static void changeTellsWhereTheFirstLies() {
        sentence("Promise 14", "Two BOBBINS are CHANGED: at which place the first one lies then.");
        BobbinTalk x = laid("n4;m0,1,1234;");
        due("change(0, 3)", x.change(0, 3), 3);
        due("lies", lies(x), 3120);
        due("change(0, 1)", x.change(0, 1), 1);
        due("lies", lies(x), 3021);
        due("change(2, 3)", x.change(2, 3), 0);
        due("lies", lies(x), 2031);
        due("change(3, 2)", x.change(3, 2), 0);
        due("lies", lies(x), 3021);
        due("bobbin(3, 0)", x.bobbin(3, 0), 0);
        BobbinTalk six = laid("n6;m0,1,1234;");
        due("change(5, 0)", six.change(5, 0), 0);
        due("change(0, 5)", six.change(0, 5), 0);
        due("lies", lies(six), 12345);
    }

    static void changeRefused() {
        sentence("Promise 14", "BAD (alike, too).");
        int[][] wrong = {{0, 0}, {1, 1}, {3, 3}, {4, 0}, {0, 4}, {-1, 0}, {0, -1}, {4, 4}, {-1, -1}, {4, 5}, {LOWEST, 0}, {0, HIGHEST}};
        for (int[] w : wrong) {
            refused(BUSY, BAD, "change(" + w[0] + ", " + w[1] + ")", x -> x.change(w[0], w[1]));
        }
        for (int n = 2; n <= 6; n++) {
            String letters = "n" + n + ";m0,1,1234;";
            due("change(0, n) of " + n, laid(letters).change(0, n), BAD);
            due("change(n, 0) of " + n, laid(letters).change(n, 0), BAD);
            due("change(0, n - 1) of " + n, laid(letters).change(0, n - 1), n - 1);
        }
    }

    // ---- promise 15

    static void cutTellsHowManyWereMade() {
        sentence("Promise 15", "The lace is CUT OFF: how many ROWS were MADE.");
        BobbinTalk x = laid("n4;m0,1,1234;");
        due("cut() of none", x.cut(), 0);
        due("count(7), it can be undone", x.count(7), 1);
        due("undo()", x.undo(), 0);
        x.say(0);
        due("cut() of one", x.cut(), 1);
        due("cut(), twice", x.cut(), 0);
        for (int i = 0; i < 24; i++) {
            x.say(i % 4);
        }
        due("cut() of 24", x.cut(), 24);
        due("undo()", x.undo(), 7);
        due("count(4)", x.count(4), 24);
        due("made(0, 0)", x.made(0, 0), 1);
        due("made(23, 0)", x.made(23, 0), 4);
    }

    // ---- promise 16

    static void undoTellsHowManyMore() {
        sentence("Promise 16", "UNDONE: how many more can be. NO.");
        BobbinTalk x = laid("n4;m0,1,1234;m1,1,5555;");
        x.say(0);
        x.sit(1);
        x.change(0, 3);
        x.say(0);
        x.unpick();
        x.cut();
        due("undo() of cut", x.undo(), 5);
        due("count(4)", x.count(4), 1);
        due("undo() of unpick", x.undo(), 4);
        due("count(4)", x.count(4), 2);
        due("made(1, 0)", x.made(1, 0), 5);
        due("made(1, 1)", x.made(1, 1), 1);
        due("lies", lies(x), 1320);
        due("undo() of say", x.undo(), 3);
        due("lies", lies(x), 1302);
        due("undo() of change", x.undo(), 2);
        due("lies", lies(x), 1032);
        due("undo() of sit", x.undo(), 1);
        due("count(3)", x.count(3), 0);
        due("undo() of say", x.undo(), 0);
        due("count(4)", x.count(4), 0);
        due("lies", lies(x), 123);
        due("undo()", x.undo(), NO);
    }

    static void undoRefused() {
        sentence("Promise 16", "UNDONE: how many more can be. NO.");
        refused(x -> {
        }, NO, "undo() of a new object", BobbinTalk::undo);
        refused(x -> {
            BUSY.on(x);
            times(4, x::undo);
        }, NO, "undo() of a fifth of four", BobbinTalk::undo);
        refused(x -> {
            write(x, "n2;m0,1,1000;");
            x.lay();
            times(20, () -> x.say(0));
            times(8, x::undo);
        }, NO, "undo() of a ninth", BobbinTalk::undo);
        refused(x -> {
            BUSY.on(x);
            x.back();
        }, NO, "undo() behind back()", BobbinTalk::undo);
        refused(x -> {
            BUSY.on(x);
            x.lay();
        }, NO, "undo() behind lay()", BobbinTalk::undo);
    }

    static void undoOfRowsMadeOtherwiseBetween() {
        sentence("Promise 16", "UNDONE: how many more can be. NO.");
        BobbinTalk x = laid("n4;m0,1,1234;");
        x.say(1);
        x.say(1);
        x.unpick();
        x.unpick();
        x.say(0);
        x.say(2);
        times(4, x::undo);
        due("count(4)", x.count(4), 2);
        due("made(0, 0)", x.made(0, 0), 2);
        due("made(1, 0)", x.made(1, 0), 2);
        due("unpick()", x.unpick(), 1);
        due("lies", lies(x), 213);
    }

    static void refusedCallsAreNotUndone() {
        sentence("Promise 16", "UNDONE: how many more can be. NO.");
        BobbinTalk x = laid("n4;m0,1,1234;");
        x.unpick();
        x.say(4);
        x.sit(1);
        x.change(0, 0);
        x.undo();
        x.back();
        due("count(7)", x.count(7), 0);
        due("undo()", x.undo(), NO);
    }
}
