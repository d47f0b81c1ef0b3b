import java.util.Arrays;

/** Letters that pay by how long they have waited to be written. ../shared/DOC.md tells what each call does. */
public final class WaitedPost {
    public static final int UNKNOWN = -1, OUTSIDE = -2, STATE = -3, FULL = -4, NONE = -9;

    private static final int MOST_SIGNS = 48;
    private static final int MOST_LETTERS = 6;
    private static final int MOST_ACTS = 14;
    private static final int MOST_SLOTS = 2;
    private static final int MOST_THINGS = 6;
    private static final int MOST_WAITED = 99;
    private static final int MOST_COST = 60;
    private static final int MOST_DAYS_ON = 9;
    private static final int MOST_YEARS = 30;
    private static final int CHOICE_DAYS = 4;
    private static final int CARD_DAYS = 3;
    private static final int EXPLAINED_LESS = 3;
    private static final int TOGETHER_MORE = 2;
    private static final int NOTHING = 9;
    private static final int TENTHS = 10;
    private static final int UNPLANNED_COST = 999;
    private static final int SETS = 64;
    private static final long SEED_TIMES = 6364136223846793005L;
    private static final long SEED_MORE = 1442695040888963407L;
    private static final int[] RATES = {1, 2, 3, 0};

    private final int[] text;
    private int length;
    private final Reader reader;
    private final Told told;
    private final Standing now;
    private final Standing trial;
    private final Standing[] acts;
    private int actCount;
    private final Standing[] kept;
    private int keptSlots;
    private final int[] figures;
    private final Planner planner;
    private long chance;

    public WaitedPost() {
        text = new int[MOST_SIGNS];
        reader = new Reader();
        told = new Told();
        now = new Standing();
        trial = new Standing();
        acts = new Standing[MOST_ACTS];
        for (int i = 0; i < acts.length; i++) {
            acts[i] = new Standing();
        }
        kept = new Standing[MOST_SLOTS];
        for (int i = 0; i < kept.length; i++) {
            kept[i] = new Standing();
        }
        figures = new int[MOST_THINGS];
        planner = new Planner();
    }

    // ---- the post

    public int write(int letter) {
        if (letter < 0 || letter > 255) {
            return OUTSIDE;
        }
        if (length < 0 || length >= text.length) {
            return FULL;
        }
        text[length] = letter;
        length++;
        return length;
    }

    public int wipe() {
        int was = length;
        length = 0;
        return was;
    }

    public int fault() {
        return readText();
    }

    public int post() {
        if (readText() != NONE) {
            return STATE;
        }
        told.take(reader.draft);
        now.begin(told);
        actCount = 0;
        keptSlots = 0;
        return told.letters;
    }

    public int letter(int letter, int what) {
        if (!known(letter)) {
            return UNKNOWN;
        }
        switch (what) {
            case 0: return at(now.waited, letter);
            case 1: return at(told.kinds, letter);
            case 2: return at(told.explainers, letter);
            case 3: return has(now.sent, letter) ? 1 : 0;
            case 4: return has(now.torn, letter) ? 1 : 0;
            case 5: return at(now.clocks, letter);
            case 6: return has(now.sent, letter) ? NONE : told.costIn(now, letter, 0, now.sent);
            default: return OUTSIDE;
        }
    }

    // ---- acts

    public int send(int letter) {
        if (!known(letter)) {
            return UNKNOWN;
        }
        if (has(now.sent, letter)) {
            return STATE;
        }
        if (!canBeSent(now, letter)) {
            return FULL;
        }
        remember();
        return putSent(now, letter);
    }

    public int day() {
        remember();
        now.passDay(told.letters);
        return now.today;
    }

    public int tear(int letter) {
        if (!known(letter)) {
            return UNKNOWN;
        }
        if (has(now.sent | now.torn, letter)) {
            return STATE;
        }
        remember();
        int was = at(now.waited, letter);
        put(now.waited, letter, 0);
        now.torn |= bit(letter);
        return was;
    }

    public int card(int letter) {
        if (!known(letter)) {
            return UNKNOWN;
        }
        if (has(now.sent, letter) || at(now.clocks, letter) > 0) {
            return STATE;
        }
        remember();
        put(now.clocks, letter, CARD_DAYS);
        return told.costIn(now, letter, 0, now.sent);
    }

    public int undo() {
        if (actCount <= 0 || actCount > acts.length) {
            return STATE;
        }
        actCount--;
        now.take(acts[actCount]);
        return actCount;
    }

    // ---- prices

    public int price(int letter, int n) {
        if (!known(letter)) {
            return UNKNOWN;
        }
        if (n < 0 || n > MOST_DAYS_ON) {
            return OUTSIDE;
        }
        if (has(now.sent, letter)) {
            return STATE;
        }
        return told.costIn(now, letter, n, now.sent);
    }

    public int cheapest(int letter) {
        if (!known(letter)) {
            return UNKNOWN;
        }
        if (has(now.sent, letter)) {
            return STATE;
        }
        int best = 0;
        int least = told.costIn(now, letter, 0, now.sent);
        for (int n = 1; n <= MOST_DAYS_ON; n++) {
            int cost = told.costIn(now, letter, n, now.sent);
            if (cost < least) {
                least = cost;
                best = n;
            }
        }
        return best;
    }

    public int plan(int letters, boolean row) {
        if (letters < 0 || letters >= bit(told.letters)) {
            return OUTSIDE;
        }
        if ((letters & now.sent) != 0) {
            return STATE;
        }
        planner.fill(told, now, letters);
        if (!planner.hasRoom(letters)) {
            return NONE;
        }
        return row ? planner.rowOf(letters) : planner.paidFor(letters);
    }

    public int order() {
        int left = unsent();
        if (left == 0) {
            return NONE;
        }
        int row = 0;
        for (int step = 0; step < MOST_LETTERS && left != 0; step++) {
            int next = firstUnexplained(left);
            if (next < 0) {
                return NONE;
            }
            row = row * 10 + next + 1;
            left &= ~bit(next);
        }
        return row;
    }

    public int judge(int n, int row) {
        return takeFigures(n, row) ? tryThings(n) : OUTSIDE;
    }

    public int cost(int n, int row) {
        if (!takeFigures(n, row)) {
            return OUTSIDE;
        }
        tryThings(n);
        return trial.paid - now.paid;
    }

    // ---- how long, who

    public int waits(int letter, int p) {
        if (!known(letter)) {
            return UNKNOWN;
        }
        if (!isCost(p)) {
            return OUTSIDE;
        }
        if (has(now.sent, letter)) {
            return STATE;
        }
        int days = 0;
        for (int waited = 0; waited <= 9; waited++) {
            if (told.costOf(letter, waited, has(now.torn, letter), now.sent, now.today) == p) {
                days |= bit(waited);
            }
        }
        return days;
    }

    public int who(int letter, int p, int what) {
        if (!known(letter)) {
            return UNKNOWN;
        }
        if (!isCost(p) || what < 0 || what > 2) {
            return OUTSIDE;
        }
        if (has(now.sent, letter)) {
            return STATE;
        }
        int explainers = at(told.explainers, letter);
        int many = 0;
        int inAll = explainers;
        int inAny = 0;
        for (int set = 0; set < SETS; set++) {
            if (within(set, explainers) && told.costIn(now, letter, 0, set) == p) {
                many++;
                inAll &= set;
                inAny |= set;
            }
        }
        if (what == 0) {
            return many;
        }
        if (many == 0) {
            return NONE;
        }
        return what == 1 ? inAll : explainers & ~inAny;
    }

    // ---- shares, rests, chances

    public int share(int letter, boolean upper) {
        if (!known(letter)) {
            return UNKNOWN;
        }
        if (has(now.sent, letter)) {
            return fractionPart(0, 1, upper);
        }
        int left = unsent();
        int others = left & ~bit(letter);
        int most = Integer.bitCount(others);
        planner.fill(told, now, left);
        long sum = 0;
        for (int come = 0; come < SETS; come++) {
            if (within(come, others)) {
                int ahead = Integer.bitCount(come);
                long orders = factorial(ahead) * factorial(most - ahead);
                sum += orders * (costForShare(come | bit(letter)) - costForShare(come));
            }
        }
        return fractionPart(sum, factorial(most + 1), upper);
    }

    public int rests(int one, int other, int what) {
        if (!known(one) || !known(other)) {
            return UNKNOWN;
        }
        if (one == other || what < 0 || what > 1) {
            return OUTSIDE;
        }
        if (has(now.sent, one) || has(now.sent, other)) {
            return STATE;
        }
        int many = 0;
        int first = NONE;
        for (int mine = 0; mine < CHOICE_DAYS; mine++) {
            for (int theirs = 0; theirs < CHOICE_DAYS; theirs++) {
                if (isBestDay(one, mine, other, theirs) && isBestDay(other, theirs, one, mine)) {
                    many++;
                    first = first == NONE ? 10 * mine + theirs : first;
                }
            }
        }
        return what == 0 ? many : first;
    }

    public int lost(int letter, int p, int x, boolean upper) {
        if (!known(letter)) {
            return UNKNOWN;
        }
        if (!isCost(p) || x < 0 || x > TENTHS) {
            return OUTSIDE;
        }
        if (has(now.sent, letter)) {
            return STATE;
        }
        int explained = at(told.explainers, letter) & now.sent;
        int most = Integer.bitCount(explained);
        long likely = 0;
        for (int gone = 0; gone < SETS; gone++) {
            if (within(gone, explained) && told.costIn(now, letter, 0, explained & ~gone) <= p) {
                int many = Integer.bitCount(gone);
                likely += power(x, many) * power(TENTHS - x, most - many);
            }
        }
        return fractionPart(likely, power(TENTHS, most), upper);
    }

    public long seed(long v) {
        long was = chance;
        chance = v;
        return was;
    }

    public int years(int m) {
        if (m < 1 || m > MOST_YEARS) {
            return OUTSIDE;
        }
        trial.take(now);
        for (int i = 0; i < m; i++) {
            chance = chance * SEED_TIMES + SEED_MORE;
            int drawn = (int) (chance >>> 33) % 9;
            if (drawn >= MOST_LETTERS) {
                trial.passDay(told.letters);
            } else if (canBeSent(trial, drawn)) {
                putSent(trial, drawn);
            }
        }
        return trial.paid - now.paid;
    }

    // ---- slots

    public int keep(int slot) {
        if (slot < 0 || slot >= kept.length) {
            return UNKNOWN;
        }
        if (kept[slot] != null) {
            kept[slot].take(now);
        }
        keptSlots |= bit(slot);
        return now.today;
    }

    public int again(int slot) {
        if (slot < 0 || slot >= kept.length) {
            return UNKNOWN;
        }
        if (!has(keptSlots, slot)) {
            return STATE;
        }
        now.take(kept[slot]);
        actCount = 0;
        return now.today;
    }

    public int count(int what) {
        switch (what) {
            case 0: return length;
            case 1: return told.letters;
            case 2: return told.pardon;
            case 3: return told.room;
            case 4: return now.today;
            case 5: return now.sent;
            case 6: return now.sentToday;
            case 7: return now.paid;
            case 8: return costOfUnsent();
            case 9: return actCount;
            default: return OUTSIDE;
        }
    }

    // ---- what the calls share

    /** Reads THE TEXT into the reader's draft: the place of its FAULT, or NONE. */
    private int readText() {
        reader.begin();
        for (int place = 0; place < length && place < text.length; place++) {
            if (!reader.takes(text[place])) {
                return place;
            }
        }
        return reader.mayEnd() ? NONE : length;
    }

    private boolean known(int letter) {
        return letter >= 0 && letter < told.letters;
    }

    private int unsent() {
        return (bit(told.letters) - 1) & ~now.sent;
    }

    private int costOfUnsent() {
        int sum = 0;
        for (int letter = 0; letter < told.letters; letter++) {
            if (!has(now.sent, letter)) {
                sum += told.costIn(now, letter, 0, now.sent);
            }
        }
        return sum;
    }

    private boolean canBeSent(Standing state, int letter) {
        return state != null && known(letter) && !has(state.sent, letter) && state.sentToday < told.room;
    }

    private int putSent(Standing state, int letter) {
        if (state == null) {
            return 0;
        }
        int cost = told.costIn(state, letter, 0, state.sent);
        state.sent |= bit(letter);
        state.sentToday++;
        state.paid += cost;
        return cost;
    }

    /** Called ahead of each act, so that undo can bring back what stood then. */
    private void remember() {
        if (actCount >= acts.length) {
            forgetFirstAct();
        }
        if (actCount >= 0 && actCount < acts.length && acts[actCount] != null) {
            acts[actCount].take(now);
            actCount++;
        }
    }

    /** The forgotten one's room goes to the end, to be used again: no act makes an object. */
    private void forgetFirstAct() {
        Standing first = acts.length > 0 ? acts[0] : null;
        for (int i = 1; i < acts.length; i++) {
            acts[i - 1] = acts[i];
        }
        if (acts.length > 0) {
            acts[acts.length - 1] = first;
            actCount = acts.length - 1;
        }
    }

    /** The first LETTER of the set that none of the set explains; -1 if there is none. */
    private int firstUnexplained(int set) {
        for (int letter = 0; letter < told.letters; letter++) {
            if (has(set, letter) && (at(told.explainers, letter) & set) == 0) {
                return letter;
            }
        }
        return -1;
    }

    /** Puts the n figures of the row, those in front being 0 too, into figures: false if n or the row is outside. */
    private boolean takeFigures(int n, int row) {
        if (n < 1 || n > figures.length || row < 0) {
            return false;
        }
        int left = row;
        for (int i = n - 1; i >= 0; i--) {
            figures[i] = left % 10;
            left /= 10;
        }
        return left == 0;
    }

    /** Does n figures on the trial, leaving out what can not be: the place of the first that can not, or NONE. */
    private int tryThings(int n) {
        int first = NONE;
        trial.take(now);
        for (int place = 0; place < n && place < figures.length; place++) {
            int figure = figures[place];
            if (figure == 0) {
                trial.passDay(told.letters);
            } else if (canBeSent(trial, figure - 1)) {
                putSent(trial, figure - 1);
            } else if (figure != NOTHING && first == NONE) {
                first = place;
            }
        }
        return first;
    }

    private int costForShare(int set) {
        return planner.hasRoom(set) ? planner.paidFor(set) : UNPLANNED_COST;
    }

    /** What a LETTER pays in n days while another one is sent in m days. */
    private int costBeside(int letter, int n, int other, int m) {
        int sent = m < n ? now.sent | bit(other) : now.sent;
        int cost = told.costIn(now, letter, n, sent);
        return n == m ? cost + TOGETHER_MORE : cost;
    }

    private boolean isBestDay(int letter, int n, int other, int m) {
        int cost = costBeside(letter, n, other, m);
        for (int day = 0; day < CHOICE_DAYS; day++) {
            if (costBeside(letter, day, other, m) < cost) {
                return false;
            }
        }
        return true;
    }

    // ---- numbers, sets, rows

    private static boolean isCost(int p) {
        return p >= 0 && p <= MOST_COST;
    }

    private static int bit(int place) {
        return 1 << place;
    }

    private static boolean has(int set, int place) {
        return (set >> place & 1) == 1;
    }

    private static boolean within(int set, int whole) {
        return (set & ~whole) == 0;
    }

    private static int at(int[] row, int place) {
        return row != null && place >= 0 && place < row.length ? row[place] : 0;
    }

    private static void put(int[] row, int place, int value) {
        if (row != null && place >= 0 && place < row.length) {
            row[place] = value;
        }
    }

    private static void copyRow(int[] from, int[] to) {
        if (from == null || to == null) {
            return;
        }
        for (int i = 0; i < from.length && i < to.length; i++) {
            to[i] = from[i];
        }
    }

    private static long power(int number, int times) {
        long product = 1;
        for (int i = 0; i < times; i++) {
            product *= number;
        }
        return product;
    }

    private static long factorial(int n) {
        long product = 1;
        for (int i = 2; i <= n; i++) {
            product *= i;
        }
        return product;
    }

    /** Of above / below in least terms the upper number or the lower one; below is 1 or more. */
    private static int fractionPart(long above, long below, boolean upper) {
        long common = commonDivisor(Math.abs(above), below);
        if (common < 1) {
            return 0;
        }
        return (int) ((upper ? above : below) / common);
    }

    private static long commonDivisor(long one, long other) {
        long a = one;
        long b = other;
        for (int i = 0; i < 1000 && b != 0; i++) {
            long left = a % b;
            a = b;
            b = left;
        }
        return a;
    }

    /** What THE TEXT told of THE POST; no act changes it. */
    private static final class Told {
        int pardon;
        int room;
        int letters;
        final int[] waited;
        final int[] kinds;
        final int[] explainers;

        Told() {
            room = 1;
            waited = new int[MOST_LETTERS];
            kinds = new int[MOST_LETTERS];
            explainers = new int[MOST_LETTERS];
        }

        void clear() {
            pardon = 0;
            room = 1;
            letters = 0;
            Arrays.fill(explainers, 0);
        }

        void take(Told other) {
            if (other == null) {
                return;
            }
            pardon = other.pardon;
            room = other.room;
            letters = other.letters;
            copyRow(other.waited, waited);
            copyRow(other.kinds, kinds);
            copyRow(other.explainers, explainers);
        }

        void addLetter(int days, int kind) {
            put(waited, letters, days);
            put(kinds, letters, kind);
            letters++;
        }

        /** How many LETTERS one explains. */
        int explainedBy(int letter) {
            int many = 0;
            for (int other = 0; other < letters; other++) {
                if (has(at(explainers, other), letter)) {
                    many++;
                }
            }
            return many;
        }

        /** The PRICE, some days on, if nothing else is done and just the sent ones explain. */
        int costIn(Standing state, int letter, int days, int sent) {
            if (state == null) {
                return 0;
            }
            int counted = Math.max(0, days - at(state.clocks, letter));
            int waitedThen = Math.min(MOST_WAITED, at(state.waited, letter) + counted);
            return costOf(letter, waitedThen, has(state.torn, letter), sent, state.today + days);
        }

        int costOf(int letter, int days, boolean torn, int sent, int today) {
            int whole = days * at(RATES, at(kinds, letter)) * (torn ? 2 : 1);
            int less = EXPLAINED_LESS * Integer.bitCount(at(explainers, letter) & sent);
            int due = Math.max(0, whole - less);
            return today == pardon ? due / 2 : due;
        }
    }

    /** What acts change: it is kept and brought back as a whole. */
    private static final class Standing {
        int today;
        int sent;
        int sentToday;
        int torn;
        int paid;
        final int[] waited;
        final int[] clocks;

        Standing() {
            waited = new int[MOST_LETTERS];
            clocks = new int[MOST_LETTERS];
        }

        void begin(Told post) {
            today = 0;
            sent = 0;
            sentToday = 0;
            torn = 0;
            paid = 0;
            Arrays.fill(clocks, 0);
            if (post != null) {
                copyRow(post.waited, waited);
            }
        }

        void take(Standing other) {
            if (other == null) {
                return;
            }
            today = other.today;
            sent = other.sent;
            sentToday = other.sentToday;
            torn = other.torn;
            paid = other.paid;
            copyRow(other.waited, waited);
            copyRow(other.clocks, clocks);
        }

        void passDay(int letters) {
            for (int letter = 0; letter < letters; letter++) {
                if (has(sent, letter)) {
                    continue;
                }
                int clock = at(clocks, letter);
                if (clock > 0) {
                    put(clocks, letter, clock - 1);
                } else {
                    put(waited, letter, Math.min(MOST_WAITED, at(waited, letter) + 1));
                }
            }
            today++;
            sentToday = 0;
        }
    }

    /** Takes THE TEXT sign by sign, and refuses the first one behind which no POST could come. */
    private static final class Reader {
        private static final int AT_HEAD = 0;
        private static final int AT_PARDON = 1;
        private static final int AT_ROOM = 2;
        private static final int AT_PART = 3;
        private static final int AT_WAITED = 4;
        private static final int AT_KIND = 5;
        private static final int AT_EXPLAINER = 6;
        private static final int AT_EXPLAINED = 7;

        final Told draft;
        private int step;
        // the first figure of the part in hand
        private int ahead;

        Reader() {
            draft = new Told();
        }

        void begin() {
            draft.clear();
            step = AT_HEAD;
        }

        boolean mayEnd() {
            return step == AT_PART;
        }

        boolean takes(int sign) {
            int figure = sign >= '0' && sign <= '9' ? sign - '0' : -1;
            switch (step) {
                case AT_HEAD: return takesHead(sign);
                case AT_PARDON: return takesPardon(figure);
                case AT_ROOM: return takesRoom(figure);
                case AT_PART: return takesPart(sign);
                case AT_WAITED: return takesWaited(figure);
                case AT_KIND: return takesKind(figure);
                case AT_EXPLAINER: return takesExplainer(figure);
                case AT_EXPLAINED: return takesExplained(figure);
                default: return false;
            }
        }

        private boolean takesHead(int sign) {
            step = AT_PARDON;
            return sign == 'P';
        }

        private boolean takesPardon(int figure) {
            draft.pardon = figure;
            step = AT_ROOM;
            return figure >= 0;
        }

        private boolean takesRoom(int figure) {
            draft.room = figure;
            step = AT_PART;
            return figure >= 1 && figure <= 3;
        }

        private boolean takesPart(int sign) {
            step = sign == 'L' ? AT_WAITED : AT_EXPLAINER;
            return sign == 'L' ? draft.letters < MOST_LETTERS : sign == 'E' && hasOpenPair();
        }

        private boolean takesWaited(int figure) {
            ahead = figure;
            step = AT_KIND;
            return figure >= 0;
        }

        private boolean takesKind(int figure) {
            if (figure < 0 || figure >= RATES.length) {
                return false;
            }
            draft.addLetter(ahead, figure);
            step = AT_PART;
            return true;
        }

        private boolean takesExplainer(int figure) {
            ahead = figure;
            step = AT_EXPLAINED;
            return isOpen(figure);
        }

        private boolean takesExplained(int figure) {
            int already = at(draft.explainers, figure);
            if (figure < 0 || figure >= draft.letters || figure == ahead || has(already, ahead)) {
                return false;
            }
            put(draft.explainers, figure, already | bit(ahead));
            step = AT_PART;
            return true;
        }

        /** Whether there is another LETTER that this one was not yet told to explain. */
        private boolean isOpen(int letter) {
            return letter >= 0 && letter < draft.letters && draft.explainedBy(letter) < draft.letters - 1;
        }

        private boolean hasOpenPair() {
            for (int letter = 0; letter < draft.letters; letter++) {
                if (isOpen(letter)) {
                    return true;
                }
            }
            return false;
        }
    }

    /**
     * For each set of LETTERS what it pays least, and the first row of days by which it does. Pay and row are one
     * number, SCALE times the pay and the row, so that the least number is the least pay and of like ones the first
     * row: both grow letter by letter, and no row of days needs to be tried whole.
     */
    private static final class Planner {
        private static final long SCALE = 1000000;
        private static final long NO_ROOM = 1L << 60;
        private static final int TODAYS = 4;

        // by the set that was sent, times TODAYS, and how many of all were sent on the day in hand
        private final long[] best;

        Planner() {
            best = new long[SETS * TODAYS];
        }

        void fill(Told post, Standing from, int set) {
            Arrays.fill(best, NO_ROOM);
            if (post == null || from == null || from.sentToday < 0 || from.sentToday >= TODAYS) {
                return;
            }
            lower(from.sentToday, 0);
            for (int days = 0; days < CHOICE_DAYS; days++) {
                for (int letter = 0; letter < MOST_LETTERS; letter++) {
                    if (has(set, letter)) {
                        tryLetter(post, from, set, letter, days);
                    }
                }
                endDay();
            }
        }

        boolean hasRoom(int set) {
            return bestAt(set * TODAYS) < NO_ROOM;
        }

        int paidFor(int set) {
            return (int) (bestAt(set * TODAYS) / SCALE);
        }

        int rowOf(int set) {
            return (int) (bestAt(set * TODAYS) % SCALE);
        }

        /** Letters of a day are tried by number, so that those sent ahead on that day are in the set already. */
        private void tryLetter(Told post, Standing from, int set, int letter, int days) {
            long figure = days * power(10, Integer.bitCount(set >> (letter + 1)));
            for (int sent = 0; sent < SETS; sent++) {
                if (!within(sent, set) || has(sent, letter)) {
                    continue;
                }
                long more = SCALE * post.costIn(from, letter, days, from.sent | sent) + figure;
                int then = (sent | bit(letter)) * TODAYS;
                for (int today = 0; today < post.room; today++) {
                    lower(then + today + 1, bestAt(sent * TODAYS + today) + more);
                }
            }
        }

        private void endDay() {
            for (int place = 0; place + TODAYS <= best.length; place += TODAYS) {
                for (int today = 1; today < TODAYS; today++) {
                    lower(place, bestAt(place + today));
                    best[place + today] = NO_ROOM;
                }
            }
        }

        private long bestAt(int place) {
            return place >= 0 && place < best.length ? best[place] : NO_ROOM;
        }

        private void lower(int place, long value) {
            if (place >= 0 && place < best.length && value < best[place]) {
                best[place] = value;
            }
        }
    }
}
