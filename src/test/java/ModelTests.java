import java.math.BigInteger;
import java.util.ArrayDeque;
import java.util.ArrayList;
import java.util.Arrays;
import java.util.Deque;
import java.util.HashMap;
import java.util.HashSet;
import java.util.List;
import java.util.Map;
import java.util.Random;
import java.util.Set;
import java.util.regex.Matcher;
import java.util.regex.Pattern;

/** Long runs of calls, each answer also told by a model that tries everything out one by one. */
public final class ModelTests {
    private static final int BAD = -1, NO = -2, FULL = -3, NONE = -4;
    private static final int RUNS = 300;
    private static final int CALLS = 512;

    private static int wrong = 0;

    public static void main(String[] args) {
        for (int run = 0; run < RUNS && wrong == 0; run++) {
            new Run(run).go();
        }
        System.out.println(wrong == 0 ? "all runs are as the model's" : "a run is not as the model's");
        if (wrong != 0) {
            System.exit(1);
        }
    }

    /** One run: what is called is drawn from a seed, so that each test run is the same. */
    private static final class Run {
        final int number;
        final Random random;
        final BobbinTalk talk = new BobbinTalk();
        final Model model = new Model();
        int calls = 0;

        Run(int number) {
            this.number = number;
            random = new Random(number * 7919L + 17);
        }

        int below(int n) {
            return random.nextInt(n);
        }

        void due(String call, int got, int want) {
            calls++;
            if (got != want) {
                wrong++;
                System.out.println("run " + number + ", call " + calls + ": " + call + " answered " + got
                    + ", due is " + want + ", text " + model.text);
            }
        }

        void go() {
            if (below(4) > 0) {
                writeText();
            }
            while (calls < CALLS && wrong == 0) {
                if (below(200) == 0) {
                    writeText();
                } else {
                    call(below(34));
                }
            }
        }

        void write(int letter) {
            due("write(" + letter + ")", talk.write(letter), model.write(letter));
        }

        void writeText() {
            if (below(8) > 0) {
                due("wipe()", talk.wipe(), model.wipe());
            }
            String letters = drawText();
            for (int i = 0; i < letters.length(); i++) {
                write(letters.charAt(i));
                if (below(20) == 0) {
                    due("fault()", talk.fault(), model.fault());
                }
            }
            due("fault()", talk.fault(), model.fault());
            due("lay()", talk.lay(), model.lay());
        }

        String figures(int many, int most) {
            StringBuilder row = new StringBuilder();
            for (int i = 0; i < many; i++) {
                row.append(below(most + 1));
            }
            return row.toString();
        }

        String drawText() {
            StringBuilder all = new StringBuilder();
            int bobbins = 6;
            for (int i = below(3); i > 0; i--) {
                bobbins = 2 + below(5);
                all.append("n").append(below(4) == 0 ? "0" : "").append(bobbins).append(";");
            }
            for (int i = 1 + below(9); i > 0; i--) {
                switch (below(9)) {
                    case 0: case 1: case 2: case 3:
                        all.append("m").append(below(4)).append(",").append(1 + below(9)).append(",")
                            .append(figures(4, below(3) == 0 ? 2 : 5)).append(";");
                        break;
                    case 4: case 5: case 6: all.append("o").append(1 + below(60)).append(";"); break;
                    case 7: all.append("s").append(figures(bobbins, 9)).append(";"); break;
                    default: if (below(6) == 0) { all.append("n3;"); } break;
                }
            }
            if (below(4) == 0) {
                spoil(all);
            }
            return all.toString();
        }

        void spoil(StringBuilder all) {
            int place = below(all.length() + 1);
            String signs = "0123456789;,nmos x";
            char sign = signs.charAt(below(signs.length()));
            if (place == all.length() || below(3) == 0) {
                all.insert(place, sign);
            } else if (below(2) == 0) {
                all.setCharAt(place, sign);
            } else {
                all.deleteCharAt(place);
            }
        }

        int near(int most) {
            return below(12) == 0 ? below(most + 3) - 1 : below(Math.max(1, most));
        }

        int saying() {
            if (below(10) == 0) {
                return below(400000) - 10;
            }
            int saying = 0;
            for (int i = 1 + below(8); i > 0; i--) {
                saying = saying * 5 + 1 + below(4);
            }
            return saying;
        }

        void call(int which) {
            int n = model.bobbins;
            int m = near(model.makers.size());
            int b = near(n);
            int p = near(n);
            switch (which) {
                case 0: write(below(4) == 0 ? below(140) - 5 : ';'); break;
                case 1: if (below(9) == 0) { due("wipe()", talk.wipe(), model.wipe()); } break;
                case 2: due("fault()", talk.fault(), model.fault()); break;
                case 3: if (below(9) == 0) { due("lay()", talk.lay(), model.lay()); } break;
                case 4: { int w = near(6); due("maker(" + m + ", " + w + ")", talk.maker(m, w), model.maker(m, w)); break; }
                case 5: due("order(" + m + ")", talk.order(m), model.order(m)); break;
                case 6: { int w = near(2); due("bobbin(" + b + ", " + w + ")", talk.bobbin(b, w), model.bobbin(b, w)); break; }
                case 7: due("at(" + p + ")", talk.at(p), model.at(p)); break;
                case 8: {
                    int k = near(model.made.size() + 1);
                    int w = near(2);
                    due("made(" + k + ", " + w + ")", talk.made(k, w), model.made(k, w));
                    break;
                }
                case 9: case 10: case 11: case 12: { int s = near(4); due("say(" + s + ")", talk.say(s), model.say(s)); break; }
                case 13: if (below(2) == 0) { due("unpick()", talk.unpick(), model.unpick()); } break;
                case 14: due("sit(" + m + ")", talk.sit(m), model.sit(m)); break;
                case 15: due("change(" + b + ", " + p + ")", talk.change(b, p), model.change(b, p)); break;
                case 16: if (below(6) == 0) { due("cut()", talk.cut(), model.cut()); } break;
                case 17: if (below(2) == 0) { due("undo()", talk.undo(), model.undo()); } break;
                default: question(which, m, b, p); break;
            }
        }

        void question(int which, int m, int b, int p) {
            int s = saying();
            switch (which) {
                case 18: due("behind(" + m + ", " + s + ", " + p + ")", talk.behind(m, s, p), model.behind(m, s, p)); break;
                case 19: due("round(" + m + ", " + s + ")", talk.round(m, s), model.round(m, s)); break;
                case 20: due("brings(" + m + ", " + b + ", " + p + ")", talk.brings(m, b, p), model.brings(m, b, p)); break;
                case 21: due("home(" + m + ")", talk.home(m), model.home(m)); break;
                case 22: { int n = near(11); due("ways(" + m + ", " + n + ")", talk.ways(m, n), model.ways(m, n)); break; }
                case 23: { int o = saying(); due("alike(" + m + ", " + s + ", " + o + ")", talk.alike(m, s, o), model.alike(m, s, o)); break; }
                case 24: { int k = below(8) - 1; due("deal(" + k + ")", talk.deal(k), model.deal(k)); break; }
                case 25: { int r = near(6); due("see(" + r + ")", talk.see(r), model.see(r)); break; }
                case 26: if (below(3) == 0) { due("forget()", talk.forget(), model.forget()); } break;
                case 27: due("who()", talk.who(), model.who()); break;
                case 28: { int w = near(2); due("said(" + m + ", " + w + ")", talk.said(m, w), model.said(m, w)); break; }
                case 29: { int g = spangles(); due("slip(" + g + ")", talk.slip(g), model.slip(g)); break; }
                case 30: {
                    int x = near(11);
                    int part = near(2);
                    due("slips(" + m + ", " + s + ", " + x + ", " + part + ")", talk.slips(m, s, x, part), model.slips(m, s, x, part));
                    break;
                }
                case 31: {
                    int z = below(12) == 0 ? below(3) * 5000 + below(3) - 1 : below(10000);
                    int n = below(12) == 0 ? below(63) : 1 + below(60);
                    int w = near(2);
                    due("winter(" + z + ", " + n + ", " + w + ")", talk.winter(z, n, w), model.winter(z, n, w));
                    break;
                }
                case 32:
                    if (below(2) == 0) {
                        due("keep()", talk.keep(), model.keep());
                    } else {
                        due("back()", talk.back(), model.back());
                    }
                    break;
                default: { int w = near(10); due("count(" + w + ")", talk.count(w), model.count(w)); break; }
            }
        }

        /** Mostly what one of the rows made being a PIN would show. */
        int spangles() {
            if (below(6) == 0) {
                return below(1000020) - 10;
            }
            return model.shown(model.liesWithout(below(model.made.size() + 1)));
        }
    }

    private static final class Made {
        final int row;
        final int whose;
        final int[] ahead;

        Made(int row, int whose, int[] ahead) {
            this.row = row;
            this.whose = whose;
            this.ahead = ahead;
        }
    }

    private static final class State {
        final int[] lies;
        final List<Made> made;
        final int sits;

        State(int[] lies, List<Made> made, int sits) {
            this.lies = lies.clone();
            this.made = new ArrayList<>(made);
            this.sits = sits;
        }
    }

    /** The document once more, with lists and rows that are shifted about bobbin by bobbin. */
    private static final class Model {
        private static final Pattern ITEM = Pattern.compile(
            "n(\\d\\d?);|m(\\d\\d?),(\\d\\d?),([0-5]{4});|o(\\d\\d?);|s(\\d+);");

        StringBuilder text = new StringBuilder();
        int bobbins;
        List<int[]> makers = new ArrayList<>();
        List<Integer> orders = new ArrayList<>();
        int[] spangles;
        int[] lies;
        List<Made> made = new ArrayList<>();
        int sits;
        Deque<State> past = new ArrayDeque<>();
        Deque<State> kept = new ArrayDeque<>();
        List<Integer> seen = new ArrayList<>();

        Model() {
            text.append("n6;m0,3,1234;m1,2,2154;m2,1,1523;m3,5,1230;o12;o7;o20;o5;s335170;");
            lay();
            text.setLength(0);
        }

        int write(int letter) {
            if (letter < 32 || letter > 126) {
                return BAD;
            }
            if (text.length() == 200) {
                return FULL;
            }
            text.append((char) letter);
            return text.length();
        }

        int wipe() {
            int were = text.length();
            text.setLength(0);
            return were;
        }

        int fault() {
            return new Reading(text.toString()).fault;
        }

        int lay() {
            Reading reading = new Reading(text.toString());
            if (reading.fault != NONE || reading.makers.isEmpty()) {
                return NO;
            }
            bobbins = reading.bobbins;
            makers = reading.makers;
            orders = reading.orders;
            spangles = reading.spangles;
            lies = inOrder();
            made = new ArrayList<>();
            sits = 0;
            past.clear();
            kept.clear();
            seen.clear();
            return bobbins;
        }

        private static final class Reading {
            int fault = NONE;
            int bobbins = 6;
            List<int[]> makers = new ArrayList<>();
            List<Integer> orders = new ArrayList<>();
            int[] spangles = {0, 1, 2, 3, 4, 5};

            Reading(String all) {
                int place = 0;
                boolean others = false;
                while (place < all.length()) {
                    Matcher item = ITEM.matcher(all).region(place, all.length());
                    if (!item.lookingAt() || !take(item, others)) {
                        fault = place;
                        return;
                    }
                    others |= item.group(1) == null;
                    place = item.end();
                }
            }

            boolean take(Matcher item, boolean others) {
                if (item.group(1) != null) {
                    bobbins = Integer.parseInt(item.group(1));
                    return !others && bobbins >= 2 && bobbins <= 6;
                }
                if (item.group(2) != null) {
                    int kind = Integer.parseInt(item.group(2));
                    int pace = Integer.parseInt(item.group(3));
                    String r = item.group(4);
                    makers.add(new int[] {kind, pace, r.charAt(0) - '0', r.charAt(1) - '0', r.charAt(2) - '0', r.charAt(3) - '0'});
                    return kind <= 3 && pace >= 1 && pace <= 9 && makers.size() <= 4;
                }
                if (item.group(5) != null) {
                    int rows = Integer.parseInt(item.group(5));
                    orders.add(rows);
                    return rows >= 1 && rows <= 60 && orders.size() <= 6;
                }
                String row = item.group(6);
                if (row.length() != bobbins) {
                    return false;
                }
                for (int b = 0; b < bobbins; b++) {
                    spangles[b] = row.charAt(b) - '0';
                }
                return true;
            }
        }

        int[] inOrder() {
            int[] order = new int[bobbins];
            for (int i = 0; i < bobbins; i++) {
                order[i] = i;
            }
            return order;
        }

        boolean noMaker(int m) {
            return m < 0 || m >= makers.size();
        }

        boolean noBobbin(int b) {
            return b < 0 || b >= bobbins;
        }

        int maker(int m, int what) {
            return noMaker(m) || what < 0 || what > 5 ? BAD : makers.get(m)[what];
        }

        int order(int k) {
            return k < 0 || k >= orders.size() ? BAD : orders.get(k);
        }

        int placeOf(int[] lay, int b) {
            for (int p = 0; p < lay.length; p++) {
                if (lay[p] == b) {
                    return p;
                }
            }
            throw new IllegalStateException("no bobbin " + b);
        }

        int bobbin(int b, int what) {
            if (noBobbin(b) || what < 0 || what > 1) {
                return BAD;
            }
            return what == 0 ? placeOf(lies, b) : spangles[b];
        }

        int at(int place) {
            return noBobbin(place) ? BAD : lies[place];
        }

        int made(int k, int what) {
            if (k < 0 || what < 0 || what > 1) {
                return BAD;
            }
            if (k >= made.size()) {
                return NONE;
            }
            return what == 0 ? made.get(k).row : made.get(k).whose;
        }

        /** Bobbins shifted about as a maker does it by a row. */
        void turn(int[] lay, int m, int row) {
            int kind = makers.get(m)[0];
            boolean right = kind == 1;
            for (int times = kind == 3 ? 2 : 1; times > 0; times--) {
                switch (row) {
                    case 1: pairs(lay, 0, right); break;
                    case 2: pairs(lay, 1, right); break;
                    case 3:
                        pairs(lay, 0, right);
                        if (kind != 2) {
                            pairs(lay, 1, right);
                        }
                        break;
                    case 4:
                        pairs(lay, 1, right);
                        if (kind != 2) {
                            pairs(lay, 0, right);
                        }
                        break;
                    case 5: pair(lay, 0, right); break;
                    default: break;
                }
            }
        }

        void pairs(int[] lay, int from, boolean right) {
            for (int p = from; p + 1 < lay.length; p += 2) {
                pair(lay, p, right);
            }
        }

        void pair(int[] lay, int p, boolean right) {
            int one = right ? lay.length - 1 - p : p;
            int two = right ? one - 1 : one + 1;
            int held = lay[one];
            lay[one] = lay[two];
            lay[two] = held;
        }

        void remember() {
            past.addLast(new State(lies, made, sits));
            if (past.size() > 8) {
                past.removeFirst();
            }
        }

        void restore(State state) {
            lies = state.lies.clone();
            made = new ArrayList<>(state.made);
            sits = state.sits;
        }

        int makeRow(int sound) {
            int row = makers.get(sits)[2 + sound];
            made.add(new Made(row, sits, lies.clone()));
            turn(lies, sits, row);
            return row;
        }

        int say(int sound) {
            if (sound < 0 || sound > 3) {
                return BAD;
            }
            if (made.size() == 24) {
                return FULL;
            }
            remember();
            return makeRow(sound);
        }

        void takeOff() {
            lies = made.remove(made.size() - 1).ahead.clone();
        }

        int unpick() {
            if (made.isEmpty()) {
                return NO;
            }
            remember();
            takeOff();
            return made.size();
        }

        int sit(int m) {
            if (noMaker(m)) {
                return BAD;
            }
            remember();
            int sat = sits;
            sits = m;
            return sat;
        }

        int change(int b, int c) {
            if (noBobbin(b) || noBobbin(c) || b == c) {
                return BAD;
            }
            remember();
            for (int p = 0; p < bobbins; p++) {
                lies[p] = lies[p] == b ? c : lies[p] == c ? b : lies[p];
            }
            return placeOf(lies, b);
        }

        int cut() {
            remember();
            int were = made.size();
            made.clear();
            return were;
        }

        int undo() {
            if (past.isEmpty()) {
                return NO;
            }
            restore(past.removeLast());
            return past.size();
        }

        /** The sounds of a saying, or null. */
        int[] sounds(int saying) {
            if (saying < 1) {
                return null;
            }
            String figures = Integer.toString(saying, 5);
            if (!figures.matches("[1-4]{1,8}")) {
                return null;
            }
            int[] sounds = new int[figures.length()];
            for (int i = 0; i < sounds.length; i++) {
                sounds[i] = figures.charAt(i) - '1';
            }
            return sounds;
        }

        int[] liesBehind(int m, int[] sounds, int[] from) {
            int[] lay = from.clone();
            for (int sound : sounds) {
                turn(lay, m, makers.get(m)[2 + sound]);
            }
            return lay;
        }

        int behind(int m, int saying, int place) {
            if (noMaker(m) || sounds(saying) == null || noBobbin(place)) {
                return BAD;
            }
            return liesBehind(m, sounds(saying), lies)[place];
        }

        int round(int m, int saying) {
            if (noMaker(m) || sounds(saying) == null) {
                return BAD;
            }
            int[] lay = lies;
            int times = 0;
            do {
                lay = liesBehind(m, sounds(saying), lay);
                times++;
            } while (!Arrays.equals(lay, lies));
            return times;
        }

        int brings(int m, int b, int place) {
            if (noMaker(m) || noBobbin(b) || noBobbin(place)) {
                return BAD;
            }
            if (lies[place] == b) {
                return 0;
            }
            for (int saying = 1; saying < 15625; saying++) {
                int[] sounds = sounds(saying);
                if (sounds != null && liesBehind(m, sounds, lies)[place] == b) {
                    return saying;
                }
            }
            return NONE;
        }

        int home(int m) {
            if (noMaker(m)) {
                return BAD;
            }
            Set<String> known = new HashSet<>();
            List<int[]> level = List.of(lies);
            for (int sounds = 0; !level.isEmpty(); sounds++) {
                List<int[]> next = new ArrayList<>();
                for (int[] lay : level) {
                    if (Arrays.equals(lay, inOrder())) {
                        return sounds;
                    }
                    for (int sound = 0; sound < 4; sound++) {
                        int[] then = liesBehind(m, new int[] {sound}, lay);
                        if (known.add(Arrays.toString(then))) {
                            next.add(then);
                        }
                    }
                }
                level = next;
            }
            return NONE;
        }

        int ways(int m, int n) {
            if (noMaker(m) || n < 0 || n > 10) {
                return BAD;
            }
            Map<List<Integer>, Integer> ways = new HashMap<>();
            ways.put(asList(inOrder()), 1);
            for (int i = 0; i < n; i++) {
                Map<List<Integer>, Integer> next = new HashMap<>();
                for (Map.Entry<List<Integer>, Integer> entry : ways.entrySet()) {
                    int[] lay = entry.getKey().stream().mapToInt(Integer::intValue).toArray();
                    for (int sound = 0; sound < 4; sound++) {
                        next.merge(asList(liesBehind(m, new int[] {sound}, lay)), entry.getValue(), Integer::sum);
                    }
                }
                ways = next;
            }
            return ways.getOrDefault(asList(lies), 0);
        }

        List<Integer> asList(int[] row) {
            List<Integer> list = new ArrayList<>();
            for (int i : row) {
                list.add(i);
            }
            return list;
        }

        int alike(int m, int saying, int other) {
            if (noMaker(m) || sounds(saying) == null || sounds(other) == null) {
                return BAD;
            }
            return Arrays.equals(liesBehind(m, sounds(saying), lies), liesBehind(m, sounds(other), lies)) ? 1 : 0;
        }

        int deal(int k) {
            if (k < -1 || k >= orders.size()) {
                return BAD;
            }
            int many = (int) Math.pow(makers.size(), orders.size());
            int best = -1;
            int fewest = Integer.MAX_VALUE;
            for (int code = 0; code < many; code++) {
                int[] loads = new int[4];
                for (int o = 0; o < orders.size(); o++) {
                    loads[whoMakes(code, o)] += orders.get(o) * makers.get(whoMakes(code, o))[1];
                }
                int minutes = Arrays.stream(loads).max().getAsInt();
                if (minutes < fewest) {
                    fewest = minutes;
                    best = code;
                }
            }
            return k == -1 ? fewest : whoMakes(best, k);
        }

        int whoMakes(int code, int order) {
            return code / (int) Math.pow(makers.size(), orders.size() - 1 - order) % makers.size();
        }

        int see(int row) {
            if (row < 0 || row > 5) {
                return BAD;
            }
            if (seen.size() == 8) {
                return FULL;
            }
            seen.add(row);
            return seen.size();
        }

        int forget() {
            int were = seen.size();
            seen.clear();
            return were;
        }

        int who() {
            int bits = 0;
            for (int m = 0; m < makers.size(); m++) {
                if (seen.isEmpty() || sayingsOf(m)[0] > 0) {
                    bits += 1 << m;
                }
            }
            return bits;
        }

        /** Of all sayings as long as what is seen: how many it can be, and the lowest. */
        int[] sayingsOf(int m) {
            int[] answer = {0, NONE};
            countFrom(m, 0, 0, answer);
            return answer;
        }

        void countFrom(int m, int i, int saying, int[] answer) {
            if (i == seen.size()) {
                answer[0]++;
                answer[1] = answer[1] == NONE ? saying : Math.min(answer[1], saying);
                return;
            }
            for (int sound = 3; sound >= 0; sound--) {
                if (makers.get(m)[2 + sound] == seen.get(i)) {
                    countFrom(m, i + 1, saying * 5 + sound + 1, answer);
                }
            }
        }

        int said(int m, int what) {
            if (noMaker(m) || what < 0 || what > 1) {
                return BAD;
            }
            if (seen.isEmpty()) {
                return what == 0 ? 0 : NONE;
            }
            return sayingsOf(m)[what];
        }

        int shown(int[] lay) {
            StringBuilder figures = new StringBuilder();
            for (int b : lay) {
                figures.append(spangles[b]);
            }
            return Integer.parseInt(figures.toString());
        }

        /** How bobbins lie behind all rows made but this one; all, where there is none of that number. */
        int[] liesWithout(int without) {
            if (made.isEmpty()) {
                return lies.clone();
            }
            int[] lay = made.get(0).ahead.clone();
            for (int k = 0; k < made.size(); k++) {
                if (k != without) {
                    turn(lay, made.get(k).whose, made.get(k).row);
                }
            }
            return lay;
        }

        int slip(int s) {
            if (s < 0 || Integer.toString(s).length() > bobbins) {
                return BAD;
            }
            int bits = shown(liesWithout(made.size())) == s ? 16777216 : 0;
            for (int k = 0; k < made.size(); k++) {
                if (shown(liesWithout(k)) == s) {
                    bits += 1 << k;
                }
            }
            return bits;
        }

        int slips(int m, int saying, int x, int part) {
            int[] sounds = sounds(saying);
            if (noMaker(m) || sounds == null || x < 0 || x > 10 || part < 0 || part > 1) {
                return BAD;
            }
            BigInteger above = BigInteger.ZERO;
            int[] wanted = liesBehind(m, sounds, lies);
            for (int bits = 0; bits < 1 << sounds.length; bits++) {
                BigInteger chance = BigInteger.ONE;
                int[] lay = lies.clone();
                for (int i = 0; i < sounds.length; i++) {
                    boolean pin = (bits >> i & 1) != 0;
                    chance = chance.multiply(BigInteger.valueOf(pin ? x : 10 - x));
                    if (!pin) {
                        turn(lay, m, makers.get(m)[2 + sounds[i]]);
                    }
                }
                if (Arrays.equals(lay, wanted)) {
                    above = above.add(chance);
                }
            }
            BigInteger below = BigInteger.TEN.pow(sounds.length);
            BigInteger answer = part == 0 ? above : below;
            return answer.divide(above.gcd(below)).intValueExact();
        }

        int winter(int z, int n, int what) {
            if (z < 0 || z > 9999 || n < 1 || n > 60 || what < 0 || what > 1) {
                return BAD;
            }
            State now = new State(lies, made, sits);
            int rows = 0;
            for (int k = 0; k < n; k++) {
                BigInteger x = BigInteger.valueOf(7919).multiply(BigInteger.valueOf(z))
                    .add(BigInteger.valueOf(6151).multiply(BigInteger.valueOf(k))).add(BigInteger.ONE);
                int draw = x.multiply(x).mod(BigInteger.valueOf(65521)).intValueExact();
                if (draw % 8 == 7) {
                    sits = draw / 8 % makers.size();
                } else if (draw % 8 == 6) {
                    made.clear();
                } else if (draw % 8 == 5) {
                    if (!made.isEmpty()) {
                        takeOff();
                    }
                } else if (made.size() < 24) {
                    makeRow(draw / 8 % 4);
                    rows++;
                }
            }
            int first = lies[0];
            restore(now);
            return what == 0 ? first : rows;
        }

        int keep() {
            if (kept.size() == 2) {
                return FULL;
            }
            kept.addLast(new State(lies, made, sits));
            return kept.size();
        }

        int back() {
            if (kept.isEmpty()) {
                return NO;
            }
            restore(kept.removeLast());
            past.clear();
            return kept.size();
        }

        int inPlace() {
            int many = 0;
            for (int p = 0; p < bobbins; p++) {
                many += lies[p] == p ? 1 : 0;
            }
            return many;
        }

        int count(int what) {
            int[] counts = {bobbins, makers.size(), orders.size(), sits, made.size(), inPlace(), seen.size(),
                past.size(), kept.size(), text.length()};
            return what < 0 || what > 9 ? BAD : counts[what];
        }
    }
}
