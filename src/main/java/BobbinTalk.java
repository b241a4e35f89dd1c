import java.util.Arrays;

/** What is said over a lace pillow and what the bobbins do by it; ../shared/DOC.md tells each call. */
public final class BobbinTalk {
    public static final int BAD = -1, NO = -2, FULL = -3, NONE = -4;

    private static final int MOST_LETTERS = 200;
    private static final int MOST_BOBBINS = 6;
    private static final int MOST_MAKERS = 4;
    private static final int MOST_ORDERS = 6;
    private static final int MOST_MADE = 24;
    private static final int MOST_SEEN = 8;
    private static final int MOST_UNDONE = 8;
    private static final int MOST_KEPT = 2;
    private static final int SOUNDS = 4;
    private static final int ROWS = 6;
    private static final int TWIST = 1;
    private static final int ACROSS = 2;
    private static final int TWIST_ACROSS = 3;
    private static final int ACROSS_TWIST = 4;
    private static final int HALF = 5;
    private static final int KINDS = 4;
    private static final int LEFT_HANDED = 1;
    private static final int HASTY = 2;
    private static final int CAREFUL = 3;
    private static final int BASE = 5;
    private static final int LONGEST_SAYING = 8;
    private static final int LONGEST_BRINGING = 6;
    private static final int ALL_LAYS = 720;
    private static final int NO_SLIP = 1 << MOST_MADE;
    private static final int NO_PIN = -1;
    private static final int NEVER_DONE = 1 << 30;

    private final Text text;
    private Laid laid;
    private Laid draft;
    private final Pillow pillow;
    private final Pillow dream;
    private final Pile past;
    private final Pile kept;
    private final Sight sight;
    private final Search search;
    private final Dealing dealing;
    private final Chance chance;

    public BobbinTalk() {
        text = new Text();
        laid = new Laid();
        draft = new Laid();
        pillow = new Pillow();
        dream = new Pillow();
        past = new Pile(MOST_UNDONE);
        kept = new Pile(MOST_KEPT);
        sight = new Sight();
        search = new Search();
        dealing = new Dealing();
        chance = new Chance();
    }

    // ---- pillows

    public int write(int letter) {
        if (letter < 32 || letter > 126) {
            return BAD;
        }
        return text.append(letter) ? text.length : FULL;
    }

    public int wipe() {
        int were = text.length;
        text.length = 0;
        return were;
    }

    public int fault() {
        return text.readInto(draft);
    }

    public int lay() {
        if (text.readInto(draft) != NONE || draft.makers == 0) {
            return NO;
        }
        Laid spare = laid;
        laid = draft;
        draft = spare;
        laid.findTurns();
        pillow.begin(laid.bobbins);
        past.many = 0;
        kept.many = 0;
        sight.many = 0;
        return laid.bobbins;
    }

    public int maker(int m, int what) {
        if (!laid.hasMaker(m) || what < 0 || what > 5) {
            return BAD;
        }
        if (what == 0) {
            return Numbers.get(laid.kinds, m);
        }
        return what == 1 ? Numbers.get(laid.paces, m) : laid.rowBy(m, what - 2);
    }

    public int order(int k) {
        return laid.hasOrder(k) ? Numbers.get(laid.lengths, k) : BAD;
    }

    public int bobbin(int b, int what) {
        if (!laid.hasBobbin(b) || what < 0 || what > 1) {
            return BAD;
        }
        return what == 0 ? Turn.placeOf(pillow.lies, b, laid.bobbins) : Numbers.get(laid.spangles, b);
    }

    public int at(int place) {
        return laid.hasBobbin(place) ? Turn.held(pillow.lies, place) : BAD;
    }

    public int made(int k, int what) {
        if (k < 0 || what < 0 || what > 1) {
            return BAD;
        }
        if (k >= pillow.rowsMade) {
            return NONE;
        }
        return what == 0 ? pillow.rowMade(k) : pillow.whose(k);
    }

    // ---- at the pillow

    public int say(int sound) {
        if (sound < 0 || sound >= SOUNDS) {
            return BAD;
        }
        if (pillow.isFull()) {
            return FULL;
        }
        past.put(pillow);
        return pillow.makeRow(laid, sound);
    }

    public int unpick() {
        if (pillow.rowsMade == 0) {
            return NO;
        }
        past.put(pillow);
        pillow.takeLastRowOff();
        return pillow.rowsMade;
    }

    public int sit(int m) {
        if (!laid.hasMaker(m)) {
            return BAD;
        }
        past.put(pillow);
        int sat = pillow.sits;
        pillow.sits = m;
        return sat;
    }

    public int change(int b, int c) {
        if (!laid.hasBobbin(b) || !laid.hasBobbin(c) || b == c) {
            return BAD;
        }
        past.put(pillow);
        int to = Turn.placeOf(pillow.lies, c, laid.bobbins);
        pillow.lies = Turn.swapped(pillow.lies, Turn.placeOf(pillow.lies, b, laid.bobbins), to);
        return to;
    }

    public int cut() {
        past.put(pillow);
        int were = pillow.rowsMade;
        pillow.rowsMade = 0;
        return were;
    }

    public int undo() {
        return past.takeInto(pillow) ? past.many : NO;
    }

    // ---- sayings

    public int behind(int m, int saying, int place) {
        if (!laid.hasMaker(m) || !Saying.isOne(saying) || !laid.hasBobbin(place)) {
            return BAD;
        }
        return Turn.held(pillow.lies, Turn.held(Saying.turn(laid, m, saying), place));
    }

    public int round(int m, int saying) {
        if (!laid.hasMaker(m) || !Saying.isOne(saying)) {
            return BAD;
        }
        return Turn.timesRound(Saying.turn(laid, m, saying), laid.bobbins);
    }

    public int brings(int m, int b, int place) {
        if (!laid.hasMaker(m) || !laid.hasBobbin(b) || !laid.hasBobbin(place)) {
            return BAD;
        }
        return search.shortestSaying(laid, m, Turn.placeOf(pillow.lies, b, laid.bobbins), place);
    }

    public int home(int m) {
        return laid.hasMaker(m) ? search.soundsHome(laid, m, pillow.lies) : BAD;
    }

    public int ways(int m, int n) {
        if (!laid.hasMaker(m) || n < 0 || n > 10) {
            return BAD;
        }
        return search.rowsOfSounds(laid, m, n, pillow.lies);
    }

    public int alike(int m, int saying, int other) {
        if (!laid.hasMaker(m) || !Saying.isOne(saying) || !Saying.isOne(other)) {
            return BAD;
        }
        return Saying.turn(laid, m, saying) == Saying.turn(laid, m, other) ? 1 : 0;
    }

    public int deal(int k) {
        if (k != -1 && !laid.hasOrder(k)) {
            return BAD;
        }
        dealing.dealOut(laid);
        return k == -1 ? dealing.fewest : Numbers.get(dealing.best, k);
    }

    // ---- what was seen

    public int see(int row) {
        if (row < 0 || row >= ROWS) {
            return BAD;
        }
        return sight.add(row) ? sight.many : FULL;
    }

    public int forget() {
        int were = sight.many;
        sight.many = 0;
        return were;
    }

    public int who() {
        int bits = 0;
        for (int m = 0; m < laid.makers; m++) {
            if (sight.canBeBy(laid, m)) {
                bits |= 1 << m;
            }
        }
        return bits;
    }

    public int said(int m, int what) {
        if (!laid.hasMaker(m) || what < 0 || what > 1) {
            return BAD;
        }
        boolean can = sight.many > 0 && sight.canBeBy(laid, m);
        if (what == 0) {
            return can ? sight.sayingsBy(laid, m) : 0;
        }
        return can ? sight.lowestBy(laid, m) : NONE;
    }

    public int slip(int s) {
        if (s < 0 || s >= Numbers.power(10, laid.bobbins)) {
            return BAD;
        }
        int bits = laid.spanglesOf(pillow.layWithPin(laid, NO_PIN)) == s ? NO_SLIP : 0;
        for (int k = 0; k < pillow.rowsMade; k++) {
            if (laid.spanglesOf(pillow.layWithPin(laid, k)) == s) {
                bits |= 1 << k;
            }
        }
        return bits;
    }

    // ---- slips, winters

    public int slips(int m, int saying, int x, int part) {
        if (!laid.hasMaker(m) || !Saying.isOne(saying) || x < 0 || x > 10 || part < 0 || part > 1) {
            return BAD;
        }
        int above = chance.above(laid, m, saying, x);
        int below = Numbers.power(10, Saying.sounds(saying));
        return Numbers.without(Numbers.commonDivisor(above, below), part == 0 ? above : below);
    }

    public int winter(int z, int n, int what) {
        if (z < 0 || z > 9999 || n < 1 || n > 60 || what < 0 || what > 1) {
            return BAD;
        }
        dream.copyOf(pillow);
        int rows = 0;
        for (int k = 0; k < n; k++) {
            if (dream.followDraw(laid, drawOf(z, k))) {
                rows++;
            }
        }
        return what == 0 ? Turn.held(dream.lies, 0) : rows;
    }

    public int keep() {
        if (kept.isFull()) {
            return FULL;
        }
        kept.put(pillow);
        return kept.many;
    }

    public int back() {
        if (!kept.takeInto(pillow)) {
            return NO;
        }
        past.many = 0;
        return kept.many;
    }

    public int count(int what) {
        switch (what) {
            case 0: return laid.bobbins;
            case 1: return laid.makers;
            case 2: return laid.orders;
            case 3: return pillow.sits;
            case 4: return pillow.rowsMade;
            case 5: return Turn.inPlace(pillow.lies, laid.bobbins);
            case 6: return sight.many;
            case 7: return past.many;
            case 8: return kept.many;
            case 9: return text.length;
            default: return BAD;
        }
    }

    private static int drawOf(int z, int k) {
        // a long: the square of the largest x is far above an int
        long x = 7919L * z + 6151L * k + 1;
        return (int) (x * x % 65521);
    }

    /** Rows of numbers, read and written so that no index can throw; and the few sums on numbers. */
    private static final class Numbers {
        static int get(int[] row, int i) {
            return i >= 0 && i < row.length ? row[i] : 0;
        }

        static void set(int[] row, int i, int value) {
            if (i >= 0 && i < row.length) {
                row[i] = value;
            }
        }

        static int power(int base, int times) {
            int product = 1;
            for (int i = 0; i < times; i++) {
                product *= base;
            }
            return product;
        }

        static int commonDivisor(int a, int b) {
            // Euclid's steps on numbers below 2^31 are fewer than fifty
            for (int step = 0; step < 100 && b != 0; step++) {
                int rest = a % b;
                a = b;
                b = rest;
            }
            return a;
        }

        static int without(int divisor, int number) {
            return divisor == 0 ? number : number / divisor;
        }
    }

    /**
     * A lay tells for each place which bobbin lies there, a turn from which place its bobbin comes:
     * both are one number of three bits a place, so that they can be compared, kept and copied as such.
     */
    private static final class Turn {
        static int held(int lay, int place) {
            return (lay >> (3 * place)) & 7;
        }

        static int placeOf(int lay, int bobbin, int places) {
            for (int p = 0; p < places; p++) {
                if (held(lay, p) == bobbin) {
                    return p;
                }
            }
            return 0;
        }

        static int byNumber(int places) {
            int lay = 0;
            for (int p = 0; p < places; p++) {
                lay |= p << (3 * p);
            }
            return lay;
        }

        static int inPlace(int lay, int places) {
            int many = 0;
            for (int p = 0; p < places; p++) {
                if (held(lay, p) == p) {
                    many++;
                }
            }
            return many;
        }

        static int swapped(int lay, int p, int q) {
            int both = held(lay, p) ^ held(lay, q);
            return lay ^ (both << (3 * p)) ^ (both << (3 * q));
        }

        /** How the lay is behind the turn, or what turn two turns are together. */
        static int then(int lay, int turn, int places) {
            int result = 0;
            for (int p = 0; p < places; p++) {
                result |= held(lay, held(turn, p)) << (3 * p);
            }
            return result;
        }

        static int turnedBack(int turn, int places) {
            int result = 0;
            for (int p = 0; p < places; p++) {
                result |= p << (3 * held(turn, p));
            }
            return result;
        }

        static int fromTheRight(int turn, int places) {
            int result = 0;
            for (int p = 0; p < places; p++) {
                result |= (places - 1 - held(turn, places - 1 - p)) << (3 * p);
            }
            return result;
        }

        /** How many of all lays come ahead of this one: a place for it in a row of ALL_LAYS. */
        static int rank(int lay, int places) {
            int rank = 0;
            int used = 0;
            for (int p = 0; p < places; p++) {
                int bit = 1 << held(lay, p);
                rank = rank * (places - p) + held(lay, p) - Integer.bitCount(used & (bit - 1));
                used |= bit;
            }
            return rank;
        }

        static int timesRound(int turn, int places) {
            int none = byNumber(places);
            int all = turn;
            int times = 1;
            while (times < ALL_LAYS && all != none) {
                all = then(all, turn, places);
                times++;
            }
            return times;
        }

        static int pairsFrom(int first, int places) {
            int turn = byNumber(places);
            for (int p = first; p + 1 < places; p += 2) {
                turn = swapped(turn, p, p + 1);
            }
            return turn;
        }

        static int ofRow(int row, boolean hasty, int places) {
            int twist = pairsFrom(0, places);
            int across = pairsFrom(1, places);
            switch (row) {
                case TWIST: return twist;
                case ACROSS: return across;
                case TWIST_ACROSS: return hasty ? twist : then(twist, across, places);
                case ACROSS_TWIST: return hasty ? across : then(across, twist, places);
                case HALF: return swapped(byNumber(places), 0, 1);
                default: return byNumber(places);
            }
        }

        static int ofKind(int kind, int row, int places) {
            int turn = ofRow(row, kind == HASTY, places);
            if (kind == LEFT_HANDED) {
                return fromTheRight(turn, places);
            }
            return kind == CAREFUL ? then(turn, turn, places) : turn;
        }
    }

    /** What a text tells. */
    private static final class Laid {
        private static final int[] FIRST_PACES = {3, 2, 1, 5};
        private static final int[] FIRST_ROWS = {1, 2, 3, 4, 2, 1, 5, 4, 1, 5, 2, 3, 1, 2, 3, 0};
        private static final int[] FIRST_LENGTHS = {12, 7, 20, 5};
        private static final int[] FIRST_SPANGLES = {3, 3, 5, 1, 7, 0};

        int bobbins;
        int makers;
        int orders;
        boolean spangled;
        final int[] kinds;
        final int[] paces;
        final int[] rows;
        final int[] lengths;
        final int[] spangles;
        final int[] turns;

        Laid() {
            bobbins = MOST_BOBBINS;
            makers = FIRST_PACES.length;
            orders = FIRST_LENGTHS.length;
            kinds = new int[MOST_MAKERS];
            for (int m = 0; m < kinds.length; m++) {
                kinds[m] = m;
            }
            paces = Arrays.copyOf(FIRST_PACES, MOST_MAKERS);
            rows = Arrays.copyOf(FIRST_ROWS, MOST_MAKERS * SOUNDS);
            lengths = Arrays.copyOf(FIRST_LENGTHS, MOST_ORDERS);
            spangles = Arrays.copyOf(FIRST_SPANGLES, MOST_BOBBINS);
            turns = new int[KINDS * ROWS];
            for (int i = 0; i < turns.length; i++) {
                turns[i] = Turn.ofKind(i / ROWS, i % ROWS, MOST_BOBBINS);
            }
        }

        void clear() {
            bobbins = MOST_BOBBINS;
            makers = 0;
            orders = 0;
            spangled = false;
            for (int b = 0; b < spangles.length; b++) {
                spangles[b] = b;
            }
        }

        void findTurns() {
            for (int i = 0; i < turns.length; i++) {
                turns[i] = Turn.ofKind(i / ROWS, i % ROWS, bobbins);
            }
        }

        boolean hasBobbin(int b) {
            return b >= 0 && b < bobbins;
        }

        boolean hasMaker(int m) {
            return m >= 0 && m < makers;
        }

        boolean hasOrder(int k) {
            return k >= 0 && k < orders;
        }

        int rowBy(int m, int sound) {
            return Numbers.get(rows, m * SOUNDS + sound);
        }

        int turnOf(int m, int row) {
            return Numbers.get(turns, Numbers.get(kinds, m) * ROWS + row);
        }

        int turnBy(int m, int sound) {
            return turnOf(m, rowBy(m, sound));
        }

        int spanglesOf(int lay) {
            int all = 0;
            for (int p = 0; p < bobbins; p++) {
                all = all * 10 + Numbers.get(spangles, Turn.held(lay, p));
            }
            return all;
        }
    }

    /** The text, with a place to read on from. */
    private static final class Text {
        final int[] letters;
        int length;
        int place;

        Text() {
            letters = new int[MOST_LETTERS];
        }

        boolean append(int letter) {
            if (length < 0 || length >= letters.length) {
                return false;
            }
            letters[length] = letter;
            length++;
            return true;
        }

        /** The place of the first item that is not so, or NONE; the draft is all told only by NONE. */
        int readInto(Laid draft) {
            draft.clear();
            place = 0;
            for (int items = 0; items < MOST_LETTERS && place < length; items++) {
                int first = place;
                if (!readItem(draft) || !readSign(';')) {
                    return first;
                }
            }
            return NONE;
        }

        private boolean readItem(Laid draft) {
            int letter = Numbers.get(letters, place);
            place++;
            switch (letter) {
                case 'n': return readBobbins(draft);
                case 'm': return readMaker(draft);
                case 'o': return readOrder(draft);
                case 's': return readSpangles(draft);
                default: return false;
            }
        }

        private boolean readBobbins(Laid draft) {
            boolean first = draft.makers == 0 && draft.orders == 0 && !draft.spangled;
            int many = readNumber();
            if (!first || many < 2 || many > MOST_BOBBINS) {
                return false;
            }
            draft.bobbins = many;
            return true;
        }

        private boolean readMaker(Laid draft) {
            int m = draft.makers;
            if (m >= MOST_MAKERS) {
                return false;
            }
            int kind = readNumber();
            if (kind < 0 || kind >= KINDS || !readSign(',')) {
                return false;
            }
            int pace = readNumber();
            if (pace < 1 || pace > 9 || !readSign(',')) {
                return false;
            }
            Numbers.set(draft.kinds, m, kind);
            Numbers.set(draft.paces, m, pace);
            draft.makers++;
            return readRow(draft.rows, m * SOUNDS, SOUNDS, ROWS - 1);
        }

        private boolean readOrder(Laid draft) {
            int rows = readNumber();
            if (draft.orders >= MOST_ORDERS || rows < 1 || rows > 60) {
                return false;
            }
            Numbers.set(draft.lengths, draft.orders, rows);
            draft.orders++;
            return true;
        }

        private boolean readSpangles(Laid draft) {
            draft.spangled = true;
            return readRow(draft.spangles, 0, draft.bobbins, 9);
        }

        private boolean readRow(int[] row, int from, int many, int highest) {
            for (int i = 0; i < many; i++) {
                int figure = readFigure();
                if (figure < 0 || figure > highest) {
                    return false;
                }
                Numbers.set(row, from + i, figure);
            }
            return true;
        }

        private int readNumber() {
            int first = readFigure();
            if (first < 0) {
                return -1;
            }
            int second = readFigure();
            return second < 0 ? first : first * 10 + second;
        }

        private int readFigure() {
            int letter = place < length ? Numbers.get(letters, place) : 0;
            if (letter < '0' || letter > '9') {
                return -1;
            }
            place++;
            return letter - '0';
        }

        private boolean readSign(int sign) {
            if (place >= length || Numbers.get(letters, place) != sign) {
                return false;
            }
            place++;
            return true;
        }
    }

    /** A pillow as it stands: each row made is one number, of its row, its maker and how bobbins lay ahead of it. */
    private static final class Pillow {
        int lies;
        int sits;
        int rowsMade;
        final int[] rows;

        Pillow() {
            lies = Turn.byNumber(MOST_BOBBINS);
            rows = new int[MOST_MADE];
        }

        void begin(int bobbins) {
            lies = Turn.byNumber(bobbins);
            sits = 0;
            rowsMade = 0;
        }

        void copyOf(Pillow other) {
            lies = other.lies;
            sits = other.sits;
            rowsMade = other.rowsMade;
            System.arraycopy(other.rows, 0, rows, 0, MOST_MADE);
        }

        boolean isFull() {
            return rowsMade >= MOST_MADE;
        }

        int rowMade(int k) {
            return Numbers.get(rows, k) & 7;
        }

        int whose(int k) {
            return (Numbers.get(rows, k) >> 3) & 3;
        }

        int layAhead(int k) {
            return Numbers.get(rows, k) >> 5;
        }

        int makeRow(Laid laid, int sound) {
            int row = laid.rowBy(sits, sound);
            Numbers.set(rows, rowsMade, row | (sits << 3) | (lies << 5));
            rowsMade++;
            lies = Turn.then(lies, laid.turnOf(sits, row), laid.bobbins);
            return row;
        }

        void takeLastRowOff() {
            rowsMade--;
            lies = layAhead(rowsMade);
        }

        /** How bobbins would lie behind all rows made, the one at pin being a PIN (or none, by NO_PIN). */
        int layWithPin(Laid laid, int pin) {
            int lay = rowsMade > 0 ? layAhead(0) : lies;
            for (int k = 0; k < rowsMade; k++) {
                if (k != pin) {
                    lay = Turn.then(lay, laid.turnOf(whose(k), rowMade(k)), laid.bobbins);
                }
            }
            return lay;
        }

        /** Whether a row came to be made by it. */
        boolean followDraw(Laid laid, int draw) {
            int which = draw / 8;
            switch (draw % 8) {
                case 7:
                    if (laid.makers > 0) {
                        sits = which % laid.makers;
                    }
                    return false;
                case 6:
                    rowsMade = 0;
                    return false;
                case 5:
                    if (rowsMade > 0) {
                        takeLastRowOff();
                    }
                    return false;
                default:
                    if (isFull()) {
                        return false;
                    }
                    makeRow(laid, which % SOUNDS);
                    return true;
            }
        }
    }

    /** Pillows one upon the other; where it is full, the lowest goes. */
    private static final class Pile {
        final Pillow[] pillows;
        int many;

        Pile(int most) {
            pillows = new Pillow[most > 0 ? most : 1];
            for (int i = 0; i < pillows.length; i++) {
                pillows[i] = new Pillow();
            }
        }

        boolean isFull() {
            return many >= pillows.length;
        }

        void put(Pillow pillow) {
            if (isFull()) {
                dropLowest();
            }
            if (many >= 0 && many < pillows.length) {
                pillows[many].copyOf(pillow);
                many++;
            }
        }

        boolean takeInto(Pillow pillow) {
            if (many < 1 || many > pillows.length) {
                return false;
            }
            many--;
            pillow.copyOf(pillows[many]);
            return true;
        }

        private void dropLowest() {
            // the dropped one is used again on top, so that no call makes an object
            Pillow spare = pillows[0];
            for (int i = 1; i < pillows.length; i++) {
                pillows[i - 1] = pillows[i];
            }
            pillows[pillows.length - 1] = spare;
            many--;
        }
    }

    private static final class Saying {
        static boolean isOne(int saying) {
            int rest = saying;
            for (int i = 0; i < LONGEST_SAYING && rest > 0; i++) {
                if (rest % BASE == 0) {
                    return false;
                }
                rest /= BASE;
            }
            return saying > 0 && rest == 0;
        }

        static int sounds(int saying) {
            int many = 0;
            for (int rest = saying; rest > 0 && many < LONGEST_SAYING; rest /= BASE) {
                many++;
            }
            return many;
        }

        /** All rows of it as one turn; the last sound is the lowest figure, so it is put together from behind. */
        static int turn(Laid laid, int m, int saying) {
            int turn = Turn.byNumber(laid.bobbins);
            int rest = saying;
            for (int i = 0; i < LONGEST_SAYING && rest > 0; i++) {
                turn = Turn.then(laid.turnBy(m, rest % BASE - 1), turn, laid.bobbins);
                rest /= BASE;
            }
            return turn;
        }
    }

    /** What can be reached by sounds; its rows are used again at each call. */
    private static final class Search {
        final int[] lays;
        final int[] counts;
        final int[] laterCounts;
        final int[] places;
        final int[] sayings;

        Search() {
            lays = new int[ALL_LAYS];
            counts = new int[ALL_LAYS];
            laterCounts = new int[ALL_LAYS];
            places = new int[MOST_BOBBINS];
            sayings = new int[MOST_BOBBINS];
        }

        /**
         * Places in the order in which sayings reach them, shorter and lower ones first:
         * so the first saying that reaches a place is the one asked for.
         */
        int shortestSaying(Laid laid, int m, int from, int to) {
            Arrays.fill(sayings, NONE);
            Numbers.set(sayings, from, 0);
            places[0] = from;
            int reached = 1;
            for (int i = 0; i < reached && i < places.length; i++) {
                int saying = Numbers.get(sayings, places[i]);
                if (Saying.sounds(saying) >= LONGEST_BRINGING) {
                    break;
                }
                for (int sound = 0; sound < SOUNDS; sound++) {
                    int place = Turn.placeOf(laid.turnBy(m, sound), places[i], laid.bobbins);
                    if (Numbers.get(sayings, place) == NONE) {
                        Numbers.set(sayings, place, saying * BASE + sound + 1);
                        Numbers.set(places, reached, place);
                        reached++;
                    }
                }
            }
            return Numbers.get(sayings, to);
        }

        int soundsHome(Laid laid, int m, int from) {
            int home = Turn.byNumber(laid.bobbins);
            Arrays.fill(counts, NONE);
            Numbers.set(counts, Turn.rank(from, laid.bobbins), 0);
            lays[0] = from;
            int reached = 1;
            for (int i = 0; i < reached && i < lays.length; i++) {
                int sounds = Numbers.get(counts, Turn.rank(lays[i], laid.bobbins));
                if (lays[i] == home) {
                    return sounds;
                }
                for (int sound = 0; sound < SOUNDS; sound++) {
                    int lay = Turn.then(lays[i], laid.turnBy(m, sound), laid.bobbins);
                    int rank = Turn.rank(lay, laid.bobbins);
                    if (Numbers.get(counts, rank) == NONE) {
                        Numbers.set(counts, rank, sounds + 1);
                        Numbers.set(lays, reached, lay);
                        reached++;
                    }
                }
            }
            return NONE;
        }

        /**
         * Told by halves, which makes far fewer steps: each first half brings bobbins to some lay,
         * and the second halves wanted are those whose turn is what is left from there.
         */
        int rowsOfSounds(Laid laid, int m, int n, int to) {
            int[] now = counts;
            int[] before = laterCounts;
            Arrays.fill(now, 0);
            int start = Turn.byNumber(laid.bobbins);
            int first = Turn.rank(start, laid.bobbins);
            Numbers.set(now, first, 1);
            Numbers.set(lays, first, start);
            int longer = n - n / 2;
            for (int step = 0; step < longer; step++) {
                int[] spare = before;
                before = now;
                now = spare;
                addSound(laid, m, before, now);
            }
            return join(laid, longer > n / 2 ? before : now, now, to);
        }

        private void addSound(Laid laid, int m, int[] from, int[] into) {
            Arrays.fill(into, 0);
            for (int i = 0; i < from.length; i++) {
                if (from[i] == 0) {
                    continue;
                }
                int lay = Numbers.get(lays, i);
                for (int sound = 0; sound < SOUNDS; sound++) {
                    int next = Turn.then(lay, laid.turnBy(m, sound), laid.bobbins);
                    int rank = Turn.rank(next, laid.bobbins);
                    Numbers.set(lays, rank, next);
                    Numbers.set(into, rank, Numbers.get(into, rank) + from[i]);
                }
            }
        }

        private int join(Laid laid, int[] firstHalves, int[] secondHalves, int to) {
            int all = 0;
            for (int i = 0; i < firstHalves.length; i++) {
                if (firstHalves[i] == 0) {
                    continue;
                }
                int turn = Turn.then(Turn.turnedBack(Numbers.get(lays, i), laid.bobbins), to, laid.bobbins);
                all += firstHalves[i] * Numbers.get(secondHalves, Turn.rank(turn, laid.bobbins));
            }
            return all;
        }
    }

    /** Tries who makes which order, lowest makers first, and keeps a way only where it is done sooner. */
    private static final class Dealing {
        final int[] loads;
        final int[] tried;
        final int[] best;
        int fewest;

        Dealing() {
            loads = new int[MOST_MAKERS];
            tried = new int[MOST_ORDERS];
            best = new int[MOST_ORDERS];
        }

        void dealOut(Laid laid) {
            Arrays.fill(loads, 0);
            fewest = NEVER_DONE;
            give(this, laid, 0, 0);
        }

        // static, as rule 8 of LANGUAGE.md wants a method that calls itself; as deep as there are orders
        private static void give(Dealing dealing, Laid laid, int k, int minutes) {
            if (k >= laid.orders || k >= MOST_ORDERS) {
                dealing.fewest = minutes;
                System.arraycopy(dealing.tried, 0, dealing.best, 0, MOST_ORDERS);
                return;
            }
            int[] loads = dealing.loads;
            for (int m = 0; m < laid.makers && m < loads.length; m++) {
                int more = Numbers.get(laid.lengths, k) * Numbers.get(laid.paces, m);
                int longest = Math.max(minutes, loads[m] + more);
                if (longest < dealing.fewest) {
                    loads[m] += more;
                    Numbers.set(dealing.tried, k, m);
                    give(dealing, laid, k + 1, longest);
                    loads[m] -= more;
                }
            }
        }
    }

    private static final class Sight {
        final int[] rows;
        int many;

        Sight() {
            rows = new int[MOST_SEEN];
        }

        boolean add(int row) {
            if (many < 0 || many >= rows.length) {
                return false;
            }
            rows[many] = row;
            many++;
            return true;
        }

        boolean canBeBy(Laid laid, int m) {
            for (int i = 0; i < many && i < rows.length; i++) {
                if (soundsFor(laid, m, rows[i]) == 0) {
                    return false;
                }
            }
            return true;
        }

        int sayingsBy(Laid laid, int m) {
            int product = 1;
            for (int i = 0; i < many && i < rows.length; i++) {
                product *= soundsFor(laid, m, rows[i]);
            }
            return product;
        }

        int lowestBy(Laid laid, int m) {
            int saying = 0;
            for (int i = 0; i < many && i < rows.length; i++) {
                saying = saying * BASE + lowestSound(laid, m, rows[i]) + 1;
            }
            return saying;
        }

        private static int soundsFor(Laid laid, int m, int row) {
            int sounds = 0;
            for (int sound = 0; sound < SOUNDS; sound++) {
                if (laid.rowBy(m, sound) == row) {
                    sounds++;
                }
            }
            return sounds;
        }

        private static int lowestSound(Laid laid, int m, int row) {
            int sound = 0;
            while (sound < SOUNDS - 1 && laid.rowBy(m, sound) != row) {
                sound++;
            }
            return sound;
        }
    }

    /** A saying with slips: each bit of an index tells whether that sound, told from the last one, is his row. */
    private static final class Chance {
        final int[] turns;

        Chance() {
            turns = new int[1 << LONGEST_SAYING];
        }

        /** The chance, of ten to the power of as many as there are sounds. */
        int above(Laid laid, int m, int saying, int x) {
            turns[0] = Turn.byNumber(laid.bobbins);
            int many = 1;
            int rest = saying;
            for (int i = 0; i < LONGEST_SAYING && rest > 0; i++) {
                int turn = laid.turnBy(m, rest % BASE - 1);
                for (int k = 0; k < many; k++) {
                    Numbers.set(turns, many + k, Turn.then(turn, Numbers.get(turns, k), laid.bobbins));
                }
                many *= 2;
                rest /= BASE;
            }
            int sounds = Saying.sounds(saying);
            int wanted = Numbers.get(turns, many - 1);
            int above = 0;
            for (int k = 0; k < many; k++) {
                if (Numbers.get(turns, k) == wanted) {
                    int rows = Integer.bitCount(k);
                    above += Numbers.power(10 - x, rows) * Numbers.power(x, sounds - rows);
                }
            }
            return above;
        }
    }
}
