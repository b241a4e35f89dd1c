/** What the document says of all calls: for how long an object is used, and what BAD, NO, NONE and FULL are, in which order. */
public final class AnswerSentences extends Sentences {
    public static void main(String[] args) throws Exception {
        runAll(AnswerSentences.class);
    }

    /** Four rows of PIN said 24 times, 8 seen, 2 kept, 200 letters: of nothing there can be more. */
    private static final Calls ALL_FULL = x -> {
        write(x, "n4;m0,1,0000;m1,2,0005;o3;s9081;");
        x.lay();
        times(24, () -> x.say(3));
        times(8, () -> x.see(0));
        times(2, x::keep);
        times(200 - 32, () -> x.write('x'));
    };

    static void an512thCallIsAnsweredToo() {
        sentence("What it is", "An object is used for at most 512 calls after it has been made;");
        BobbinTalk x = new BobbinTalk();
        for (int i = 0; i < 511; i++) {
            due("call " + (i + 1), i % 2 == 0 ? x.say(0) : x.unpick(), i % 2 == 0 ? 1 : 0);
        }
        due("at(0), the 512th call", x.at(0), 1);
        BobbinTalk y = new BobbinTalk();
        int all = 0;
        for (int i = 0; i < 256; i++) {
            all += y.cut() + y.count(3) + 1;
        }
        due("512 calls of cut() and count(3)", all, 256);
        BobbinTalk z = new BobbinTalk();
        for (int i = 0; i < 511; i++) {
            z.change(i % 6, (i + 1) % 6);
        }
        due("undo(), the 512th call", z.undo(), 7);
    }

    static void constants() {
        sentence("The public face", "public static final int BAD = -1, NO = -2, FULL = -3, NONE = -4;");
        due("BAD", BobbinTalk.BAD, -1);
        due("NO", BobbinTalk.NO, -2);
        due("FULL", BobbinTalk.FULL, -3);
        due("NONE", BobbinTalk.NONE, -4);
    }

    static void badIsABobbinOrPlaceThatThereIsNot() {
        sentence("Answers", "BAD: a number is none that is told (BOBBINS, places, MAKERS, ORDERS: such as there are; SAYINGS of 1 to 8 SOUNDS).");
        for (int n = 2; n <= 6; n++) {
            BobbinTalk x = laid("n" + n + ";m0,1,0000;");
            for (int i : new int[] {-1, n, n + 1, 6, 7}) {
                String call = "of bobbin or place " + i + " of " + n;
                due("bobbin() " + call, x.bobbin(i, 0), BAD);
                due("bobbin(), spangle " + call, x.bobbin(i, 1), BAD);
                due("at() " + call, x.at(i), BAD);
                due("change(), first " + call, x.change(i, 0), BAD);
                due("change(), second " + call, x.change(0, i), BAD);
                due("behind() " + call, x.behind(0, 1, i), BAD);
                due("brings(), bobbin " + call, x.brings(0, i, 0), BAD);
                due("brings(), place " + call, x.brings(0, 0, i), BAD);
            }
            for (int i = 0; i < n; i++) {
                String call = "of bobbin or place " + i + " of " + n;
                due("bobbin() " + call, x.bobbin(i, 0), i);
                due("bobbin(), spangle " + call, x.bobbin(i, 1), i);
                due("at() " + call, x.at(i), i);
                due("behind() " + call, x.behind(0, 1, i), i);
                due("brings() " + call, x.brings(0, i, i), 0);
            }
            due("count(7), nothing changed", x.count(7), 0);
            due("change() of the last and the first", x.change(n - 1, 0), 0);
            due("count(7)", x.count(7), 1);
        }
    }

    static void badIsAMakerThatThereIsNot() {
        sentence("Answers", "BAD: a number is none that is told (BOBBINS, places, MAKERS, ORDERS: such as there are; SAYINGS of 1 to 8 SOUNDS).");
        String letters = "";
        for (int many = 1; many <= 4; many++) {
            letters += "m0,1,0000;";
            BobbinTalk x = laid(letters);
            for (int m = -1; m <= 5; m++) {
                boolean is = m >= 0 && m < many;
                String call = " of maker " + m + " of " + many;
                due("maker()" + call, x.maker(m, 0), is ? 0 : BAD);
                due("behind()" + call, x.behind(m, 1, 0), is ? 0 : BAD);
                due("round()" + call, x.round(m, 1), is ? 1 : BAD);
                due("brings()" + call, x.brings(m, 0, 0), is ? 0 : BAD);
                due("home()" + call, x.home(m), is ? 0 : BAD);
                due("ways()" + call, x.ways(m, 1), is ? 4 : BAD);
                due("alike()" + call, x.alike(m, 1, 2), is ? 1 : BAD);
                due("said(), how many" + call, x.said(m, 0), is ? 0 : BAD);
                due("said(), the lowest" + call, x.said(m, 1), is ? NONE : BAD);
                due("slips()" + call, x.slips(m, 1, 5, 0), is ? 1 : BAD);
                if (!is) {
                    due("sit()" + call, x.sit(m), BAD);
                }
            }
            due("count(7), nothing changed", x.count(7), 0);
            due("sit() of the last", x.sit(many - 1), 0);
        }
    }

    static void badIsAnOrderThatThereIsNot() {
        sentence("Answers", "BAD: a number is none that is told (BOBBINS, places, MAKERS, ORDERS: such as there are; SAYINGS of 1 to 8 SOUNDS).");
        String letters = "m0,1,0000;";
        for (int many = 0; many <= 6; many++) {
            BobbinTalk x = laid(letters);
            for (int k = -2; k <= 7; k++) {
                boolean is = k >= 0 && k < many;
                due("order(" + k + ") of " + many, x.order(k), is ? 7 : BAD);
                due("deal(" + k + ") of " + many, x.deal(k), is ? 0 : k == -1 ? many * 7 : BAD);
            }
            letters += "o7;";
        }
    }

    static void noAsThingsStand() {
        sentence("Answers", "NO: not as things stand.");
        Calls none = laying("n4;m0,1,1234;");
        refused(none, NO, "unpick()", BobbinTalk::unpick);
        refused(none, NO, "undo()", BobbinTalk::undo);
        refused(none, NO, "back()", BobbinTalk::back);
        refused(x -> {
            none.on(x);
            x.write('x');
        }, NO, "lay()", BobbinTalk::lay);
    }

    static void noneThereIs() {
        sentence("Answers", "NONE: there is none.");
        refused(ALL_FULL, NONE, "brings(0, 0, 1)", x -> x.brings(0, 0, 1));
        refused(ALL_FULL, NONE, "made(24, 0)", x -> x.made(24, 0));
        Calls pins = x -> {
            write(x, "n4;m0,1,0000;");
            x.lay();
            x.change(0, 1);
        };
        refused(pins, NONE, "home(0)", x -> x.home(0));
        refused(pins, NONE, "made(0, 1)", x -> x.made(0, 1));
        refused(pins, NONE, "said(0, 1)", x -> x.said(0, 1));
        refused(pins, NONE, "fault()", BobbinTalk::fault);
    }

    static void full() {
        sentence("Answers", "FULL.");
        refused(ALL_FULL, FULL, "write('x')", x -> x.write('x'));
        refused(ALL_FULL, FULL, "say(0)", x -> x.say(0));
        refused(ALL_FULL, FULL, "see(0)", x -> x.see(0));
        refused(ALL_FULL, FULL, "keep()", BobbinTalk::keep);
    }

    static void badAheadOfFull() {
        sentence("Answers", "Of several the first in this order, whatever the order at a call; nothing changes then.");
        refused(ALL_FULL, BAD, "write(31)", x -> x.write(31));
        refused(ALL_FULL, BAD, "write(127)", x -> x.write(127));
        refused(ALL_FULL, BAD, "say(4)", x -> x.say(4));
        refused(ALL_FULL, BAD, "say(-1)", x -> x.say(-1));
        refused(ALL_FULL, BAD, "see(6)", x -> x.see(6));
        refused(ALL_FULL, BAD, "see(-1)", x -> x.see(-1));
    }

    static void badAheadOfNone() {
        sentence("Answers", "Of several the first in this order, whatever the order at a call; nothing changes then.");
        refused(ALL_FULL, BAD, "made(24, 2)", x -> x.made(24, 2));
        refused(ALL_FULL, BAD, "made(24, -1)", x -> x.made(24, -1));
        refused(ALL_FULL, BAD, "brings(2, 0, 1)", x -> x.brings(2, 0, 1));
        refused(ALL_FULL, BAD, "brings(0, 4, 1)", x -> x.brings(0, 4, 1));
        refused(ALL_FULL, BAD, "brings(0, 0, 4)", x -> x.brings(0, 0, 4));
        Calls nothingSeen = x -> {
            ALL_FULL.on(x);
            x.forget();
            x.change(0, 1);
        };
        refused(nothingSeen, BAD, "said(2, 1)", x -> x.said(2, 1));
        refused(nothingSeen, BAD, "said(0, 2)", x -> x.said(0, 2));
        refused(nothingSeen, BAD, "home(2)", x -> x.home(2));
        refused(nothingSeen, NONE, "home(0)", x -> x.home(0));
        refused(nothingSeen, NONE, "said(1, 1)", x -> x.said(1, 1));
    }

    static void refusedOneBehindTheOther() {
        sentence("Answers", "Of several the first in this order, whatever the order at a call; nothing changes then.");
        refused(ALL_FULL, 15, "all that can be refused, one behind the other", x -> {
            int[] answers = {x.write(31), x.write('x'), x.lay(), x.maker(2, 0), x.order(1), x.bobbin(4, 0), x.at(4), x.made(-1, 0),
                x.made(24, 0), x.say(4), x.say(0), x.sit(2), x.change(1, 1), x.behind(0, 0, 0), x.round(0, 5), x.brings(0, 0, 4),
                x.brings(0, 0, 1), x.home(2), x.ways(0, 11), x.alike(0, 0, 0), x.deal(1), x.see(6), x.see(0), x.said(2, 0),
                x.slip(10000), x.slips(0, 1, 11, 0), x.winter(0, 61, 0), x.keep(), x.count(10)};
            int kinds = 0;
            for (int answer : answers) {
                kinds |= answer >= -4 && answer <= -1 ? 1 << -1 - answer : 1 << 20;
            }
            return kinds;
        });
    }
}
