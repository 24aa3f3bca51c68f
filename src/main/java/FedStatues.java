import java.util.Arrays;

/**
 * Statues are fed: a city told as a text, its days cooked and eaten, and what is asked of them.
 * Every row is made in a constructor (those of what can be undone when first needed) and used again.
 */
public final class FedStatues {
    public static final int NONE = -1;

    private static final int STATUES = 8;
    private static final int DISHES = 8;
    private static final int DEEDS = 16;
    private static final int EATERS = 8;
    private static final int MOST_STATEMENTS = 80;
    private static final int MOST_OPEN = 7;
    private static final int MOST_BYTES = 1600;
    private static final int BYTES_FED = 20;
    private static final int MOST_COINS = 999999;
    private static final int MOST_PURSE = 9999;
    private static final int LAST_DAY = 9999;
    private static final int MOST_DAYS = 100;
    private static final int MOST_AHEAD = 60;
    private static final int MOST_PORTIONS = 9;
    private static final int MOST_HUNGER = 20;
    private static final int MOST_KEPT = EATERS * MOST_HUNGER;
    private static final int MOST_UNDONE = 20;
    private static final int MOST_SEEN = 16;
    private static final int MOST_ROUNDS = 12;
    private static final int NAME_LETTERS = 6;
    private static final int LETTER_BITS = 5;
    private static final int IMAGE_HEAD = 5;
    private static final int CHECK_START = 131;

    // The sorts of names, numbered as letter() asks for them.
    private static final int STATUE_SORT = 0;
    private static final int DISH_SORT = 1;
    private static final int EATER_SORT = 2;
    private static final int SORTS = 3;

    private final byte[] tape = new byte[MOST_BYTES];
    private int taped;
    private final int[] refusals = new int[6];
    private final Parser parser = new Parser();
    private City town = new City();
    private final State now = new State();
    // The states ahead of the last acts, in a ring.
    private final State[] past = new State[MOST_UNDONE];
    private int pastNext;
    private int pastCount;
    private int drawn = 1;
    private final Table today = new Table();
    private boolean todayKnown;
    private final Table work = new Table();
    private final Ahead ahead = new Ahead();
    private final Choice choice = new Choice();
    private final Guests guests = new Guests();
    private final Places places = new Places();
    private final int[] picture = new int[IMAGE_HEAD + DEEDS + 1];
    private int pictured;

    public FedStatues() {
        now.begin(town);
        ahead.restart(now);
    }

    // ---- the tape and the city

    public int feed(int a, int b, int c, int d, int e) {
        if (taped + BYTES_FED > MOST_BYTES) {
            return refuse(0);
        }
        tapeNumber(a);
        tapeNumber(b);
        tapeNumber(c);
        tapeNumber(d);
        tapeNumber(e);
        return taped;
    }

    private void tapeNumber(int number) {
        for (int shift = 24; shift >= 0 && taped < MOST_BYTES; shift -= 8) {
            tape[taped] = (byte) (number >> shift);
            taped++;
        }
    }

    public boolean end(int n) {
        if (n < 0 || n > taped) {
            refuse(0);
            return false;
        }
        taped = n;
        return true;
    }

    public int city() {
        int length = taped;
        taped = 0;
        if (!parser.parse(tape, length)) {
            return refuse(1);
        }
        City before = town;
        town = parser.town;
        parser.town = before;
        now.begin(town);
        pastCount = 0;
        guests.rows = 0;
        stateChanged();
        return parser.statements;
    }

    public int fault(int what) {
        switch (what) {
            case 0: return parser.fault;
            case 1: return parser.place;
            default: return NONE;
        }
    }

    public int has(int what) {
        switch (what) {
            case 0: return town.named[STATUE_SORT];
            case 1: return town.named[DISH_SORT];
            case 2: return town.deeds;
            case 3: return town.named[EATER_SORT];
            case 4: return now.day;
            case 5: return now.coins;
            case 6: return town.grows;
            case 7: return town.pace;
            case 8: return town.siege;
            case 9: return portionsTold(NONE, NONE);
            case 10: return now.meals;
            case 11: return pastCount;
            case 12: return drawn;
            default: return NONE;
        }
    }

    public int letter(int kind, int which, int k) {
        if (kind < 0 || kind >= SORTS || k < 0 || k >= NAME_LETTERS) {
            return NONE;
        }
        if (!isOf(kind, which)) {
            return NONE;
        }
        int shift = LETTER_BITS * (NAME_LETTERS - 1 - k);
        return (town.names[kind][which] >> shift) & 31;
    }

    public int statue(int statue, int what) {
        if (!isOf(STATUE_SORT, statue)) {
            return NONE;
        }
        switch (what) {
            case 0: return town.place[statue];
            case 1: return town.deedsAt(statue);
            case 2: return portionsTold(statue, NONE);
            case 3: return town.warmAt(statue);
            default: return NONE;
        }
    }

    public int dish(int dish, int what) {
        if (!isOf(DISH_SORT, dish)) {
            return NONE;
        }
        switch (what) {
            case 0: return town.cost[dish];
            case 1: return town.warm[dish];
            case 2: return portionsTold(NONE, dish);
            default: return NONE;
        }
    }

    public int deed(int deed, int what) {
        if (!isDeed(deed)) {
            return NONE;
        }
        switch (what) {
            case 0: return town.deedStatue[deed];
            case 1: return town.deedDish[deed];
            case 2: return now.portions[deed];
            case 3: return town.deedPortions[deed];
            default: return NONE;
        }
    }

    public int eater(int eater, int what) {
        if (!isOf(EATER_SORT, eater)) {
            return NONE;
        }
        if (what == 0) {
            return town.hunger[eater];
        }
        if (what == 1) {
            return town.sleeps[eater];
        }
        // Tested as what, since what - 10 may wrap around.
        if (what < 10 || what >= 10 + town.named[DISH_SORT]) {
            return NONE;
        }
        return town.likes[eater][what - 10];
    }

    // ---- today, ahead

    public int plate(int deed, int what) {
        if (!isDeed(deed) || what < 0 || what > 2) {
            return NONE;
        }
        reckonToday();
        switch (what) {
            case 0: return today.put[deed];
            case 1: return today.left[deed];
            default: return today.fails[deed];
        }
    }

    public int meal(int eater, int what) {
        if (!isOf(EATER_SORT, eater) || what < 0 || what > 2) {
            return NONE;
        }
        reckonToday();
        switch (what) {
            case 0: return town.hunger[eater] - today.ate[eater];
            case 1: return today.ate[eater];
            default: return today.first[eater];
        }
    }

    public int later(int n, int what) {
        if (n < 0 || n > daysAhead() || what < 0 || what >= Ahead.ROWS) {
            return NONE;
        }
        for (int i = ahead.reached; i < n; i++) {
            ahead.step(town, now.portions, work);
        }
        return ahead.rows[what][n];
    }

    public int broken(int what) {
        if (what != 0 && what != 1) {
            return NONE;
        }
        int most = daysAhead();
        for (int i = ahead.reached; i < most && ahead.failsIn == NONE; i++) {
            ahead.step(town, now.portions, work);
        }
        return what == 0 ? ahead.failsIn : ahead.failsFirst;
    }

    // ---- rounds, carriers, what to keep

    // No place lies ahead of where a carrier begins, so up the street he comes to each statue as soon as
    // anybody can, and every way back would end later: that is the round, and one carrier is enough or none.

    public int round(int k) {
        if (!town.staysWarm()) {
            return NONE;
        }
        if (k == NONE) {
            return town.farthest() * town.pace;
        }
        for (int statue = 0; statue < town.named[STATUE_SORT]; statue++) {
            if (town.deedsAt(statue) > 0 && town.stopsAhead(statue) == k) {
                return statue;
            }
        }
        return NONE;
    }

    public int carriers() {
        if (!town.staysWarm()) {
            return NONE;
        }
        return town.deeds > 0 ? 1 : 0;
    }

    public int keep(int coins, int what) {
        if (coins < 0 || coins > MOST_PURSE || what < 0 || what > 2) {
            return NONE;
        }
        choice.reckon(town, now.portions, coins);
        switch (what) {
            case 0: return choice.bits;
            case 1: return choice.portions;
            default: return choice.coins;
        }
    }

    public int feeds(int eater, int what) {
        if (!isOf(EATER_SORT, eater) || what < 0 || what > 1) {
            return NONE;
        }
        reckonToday();
        if (today.ate[eater] >= town.hunger[eater]) {
            return what == 0 ? 0 : NONE;
        }
        for (int more = 1; more <= MOST_PORTIONS; more++) {
            int deed = firstFeeding(eater, more);
            if (deed != NONE) {
                return what == 0 ? more : deed;
            }
        }
        return NONE;
    }

    private int firstFeeding(int eater, int more) {
        for (int deed = 0; deed < town.deeds; deed++) {
            if (now.portions[deed] + more <= MOST_PORTIONS && isFedBy(eater, deed, more)) {
                return deed;
            }
        }
        return NONE;
    }

    private boolean isFedBy(int eater, int deed, int more) {
        now.portions[deed] += more;
        work.cook(town, now.portions, now.day, now.coins, 0);
        now.portions[deed] -= more;
        // Who eats behind him takes nothing away from him.
        for (int other = 0; other <= eater; other++) {
            work.serve(town, other);
        }
        return work.ate[eater] >= town.hunger[eater];
    }

    // ---- who came, who rests where

    public int seen() {
        int length = taped;
        taped = 0;
        if (length < 2 || length > 2 * MOST_SEEN || length % 2 != 0) {
            return refuse(5);
        }
        for (int i = 0; i + 1 < length; i += 2) {
            if (!isDeed(tapedByte(i)) || tapedByte(i + 1) > MOST_PORTIONS) {
                return refuse(5);
            }
        }
        guests.rows = length / 2;
        for (int row = 0; row < guests.rows; row++) {
            guests.deed[row] = tapedByte(2 * row);
            guests.left[row] = tapedByte(2 * row + 1);
        }
        guests.known = false;
        return guests.rows;
    }

    public int came(int what) {
        if (what < 0 || what > 2) {
            return NONE;
        }
        if (!guests.known) {
            work.cook(town, now.portions, now.day, now.coins, 0);
            guests.reckon(town, work);
        }
        switch (what) {
            case 0: return guests.sets;
            case 1: return guests.inAll;
            default: return guests.inSome;
        }
    }

    public int rest(int eater) {
        if (town.named[STATUE_SORT] == 0 || eater != NONE && !isOf(EATER_SORT, eater)) {
            return NONE;
        }
        reckonToday();
        places.reckon(town, today.put);
        return eater < 0 ? places.calmRound : places.taken[eater];
    }

    // ---- acts

    public int days(int n) {
        if (!canCome(n)) {
            return refuse(2);
        }
        rememberState();
        int eaten = 0;
        for (int i = 0; i < n; i++) {
            eaten += passDay(0);
        }
        now.keepMeals(work);
        stateChanged();
        return eaten;
    }

    public int chance(int n) {
        if (!canCome(n)) {
            return refuse(2);
        }
        rememberState();
        int sieges = 0;
        for (int i = 0; i < n; i++) {
            int siege = drawOfHundred() < town.siege ? 1 : 0;
            sieges += siege;
            passDay(siege);
            if (drawOfHundred() < 10) {
                now.coins = Math.min(MOST_COINS, now.coins + drawOfHundred());
            }
        }
        now.keepMeals(work);
        stateChanged();
        return sieges;
    }

    private boolean canCome(int n) {
        return n >= 1 && n <= MOST_DAYS && now.day + n <= LAST_DAY;
    }

    private int passDay(int siege) {
        work.cook(town, now.portions, now.day, now.coins, siege);
        int eaten = work.serveAll(town);
        now.coins = work.grownFund(town);
        now.day++;
        return eaten;
    }

    private int drawOfHundred() {
        drawn = (int) ((1103515245L * drawn + 12345L) & 0x7fffffffL);
        return drawn / 64 % 100;
    }

    public int give(int coins) {
        if (coins < 1 || coins > MOST_PURSE || now.coins + coins > MOST_COINS) {
            return refuse(3);
        }
        rememberState();
        now.coins += coins;
        stateChanged();
        return now.coins;
    }

    public int change(int deed, int portions) {
        if (!isDeed(deed) || portions < 0 || portions > MOST_PORTIONS) {
            return refuse(3);
        }
        rememberState();
        int before = now.portions[deed];
        now.portions[deed] = portions;
        stateChanged();
        return before;
    }

    public boolean undo() {
        int last = (pastNext + MOST_UNDONE - 1) % MOST_UNDONE;
        State before = past[last];
        if (pastCount == 0 || before == null) {
            refuse(4);
            return false;
        }
        now.copy(before);
        pastNext = last;
        pastCount--;
        stateChanged();
        return true;
    }

    private void rememberState() {
        // Made when first needed, as most objects see few acts.
        if (past[pastNext] == null) {
            past[pastNext] = new State();
        }
        past[pastNext].copy(now);
        pastNext = (pastNext + 1) % MOST_UNDONE;
        pastCount = Math.min(MOST_UNDONE, pastCount + 1);
    }

    public boolean seed(int seed) {
        if (seed < 0) {
            refuse(5);
            return false;
        }
        drawn = seed;
        return true;
    }

    public int kept(int k, int what) {
        if (k < 0 || k >= now.meals) {
            return NONE;
        }
        switch (what) {
            case 0: return now.meal[k] / DEEDS;
            case 1: return now.meal[k] % DEEDS;
            default: return NONE;
        }
    }

    // ---- images, refusals

    public int image() {
        picture[0] = now.day >> 8;
        picture[1] = now.day & 255;
        picture[2] = now.coins >> 16;
        picture[3] = (now.coins >> 8) & 255;
        picture[4] = now.coins & 255;
        System.arraycopy(now.portions, 0, picture, IMAGE_HEAD, town.deeds);
        int last = IMAGE_HEAD + town.deeds;
        int check = CHECK_START;
        for (int i = 0; i < last; i++) {
            check = nextCheck(check, picture[i]);
        }
        picture[last] = check;
        pictured = last + 1;
        return pictured;
    }

    private static int nextCheck(int check, int octet) {
        return (5 * check + octet) % 251;
    }

    public int octet(int k) {
        return k < 0 || k >= pictured ? NONE : picture[k];
    }

    public boolean on() {
        int length = taped;
        taped = 0;
        if (!isImage(length)) {
            refuse(5);
            return false;
        }
        now.day = tapedDay();
        now.coins = tapedCoins();
        for (int deed = 0; deed < town.deeds; deed++) {
            now.portions[deed] = tapedByte(IMAGE_HEAD + deed);
        }
        now.meals = 0;
        pastCount = 0;
        stateChanged();
        return true;
    }

    private boolean isImage(int length) {
        int last = IMAGE_HEAD + town.deeds;
        if (length != last + 1 || tapedDay() > LAST_DAY || tapedCoins() > MOST_COINS) {
            return false;
        }
        int check = CHECK_START;
        for (int i = 0; i < last; i++) {
            if (i >= IMAGE_HEAD && tapedByte(i) > MOST_PORTIONS) {
                return false;
            }
            check = nextCheck(check, tapedByte(i));
        }
        return tapedByte(last) == check;
    }

    private int tapedDay() {
        return tapedByte(0) * 256 + tapedByte(1);
    }

    private int tapedCoins() {
        return (tapedByte(2) * 256 + tapedByte(3)) * 256 + tapedByte(4);
    }

    public int status(int what) {
        return what < 0 || what >= refusals.length ? NONE : refusals[what];
    }

    // ---- what several calls need

    private int refuse(int what) {
        if (what >= 0 && what < refusals.length) {
            refusals[what]++;
        }
        return NONE;
    }

    private boolean isOf(int sort, int which) {
        return which >= 0 && which < town.named[sort];
    }

    private boolean isDeed(int deed) {
        return deed >= 0 && deed < town.deeds;
    }

    private int tapedByte(int i) {
        return i < 0 || i >= MOST_BYTES ? 0 : tape[i] & 255;
    }

    /** NONE stands for all statues, or for all dishes. */
    private int portionsTold(int statue, int dish) {
        int sum = 0;
        for (int deed = 0; deed < town.deeds; deed++) {
            boolean there = statue == NONE || town.deedStatue[deed] == statue;
            boolean ofIt = dish == NONE || town.deedDish[deed] == dish;
            if (there && ofIt) {
                sum += now.portions[deed];
            }
        }
        return sum;
    }

    private int daysAhead() {
        return Math.min(MOST_AHEAD, LAST_DAY - now.day);
    }

    private void reckonToday() {
        if (!todayKnown) {
            today.cook(town, now.portions, now.day, now.coins, 0);
            today.serveAll(town);
            todayKnown = true;
        }
    }

    /** What was reckoned from the state before must not be answered any more. */
    private void stateChanged() {
        todayKnown = false;
        guests.known = false;
        ahead.restart(now);
    }

    /** What the text of a city tells; it changes only while a text is read into it. */
    private static final class City {
        final int[][] names = new int[SORTS][STATUES];
        final int[] named = new int[SORTS];
        final int[] place = new int[STATUES];
        final int[] cost = new int[DISHES];
        final int[] warm = new int[DISHES];
        final int[] deedStatue = new int[DEEDS];
        final int[] deedDish = new int[DEEDS];
        final int[] deedPortions = new int[DEEDS];
        int deeds;
        final int[] hunger = new int[EATERS];
        final int[] sleeps = new int[EATERS];
        final int[][] likes = new int[EATERS][DISHES];
        final Sums sums = new Sums();
        int fund;
        int grows;
        int pace;
        int siege;

        City() {
            clear();
        }

        void clear() {
            Arrays.fill(named, 0);
            deeds = 0;
            for (int eater = 0; eater < EATERS; eater++) {
                Arrays.fill(likes[eater], 10);
            }
            sums.clear();
            fund = 100;
            grows = 0;
            pace = 1;
            siege = 0;
        }

        int find(int sort, int name) {
            for (int which = 0; which < named[sort]; which++) {
                if (names[sort][which] == name) {
                    return which;
                }
            }
            return NONE;
        }

        boolean isTaken(int name) {
            for (int sort = 0; sort < SORTS; sort++) {
                if (find(sort, name) != NONE) {
                    return true;
                }
            }
            return false;
        }

        boolean hasDeed(int statue, int dish) {
            for (int deed = 0; deed < deeds; deed++) {
                if (deedStatue[deed] == statue && deedDish[deed] == dish) {
                    return true;
                }
            }
            return false;
        }

        int deedsAt(int statue) {
            int count = 0;
            for (int deed = 0; deed < deeds; deed++) {
                if (deedStatue[deed] == statue) {
                    count++;
                }
            }
            return count;
        }

        /** The least time a dish at that statue stays warm; 0 without a deed (none is warm so briefly). */
        int warmAt(int statue) {
            int least = 0;
            for (int deed = 0; deed < deeds; deed++) {
                int minutes = warm[deedDish[deed]];
                if (deedStatue[deed] == statue && (least == 0 || minutes < least)) {
                    least = minutes;
                }
            }
            return least;
        }

        /** Whether each dish is still warm when one goes straight to where it is due. */
        boolean staysWarm() {
            for (int deed = 0; deed < deeds; deed++) {
                if (place[deedStatue[deed]] * pace > warm[deedDish[deed]]) {
                    return false;
                }
            }
            return true;
        }

        int farthest() {
            int most = 0;
            for (int deed = 0; deed < deeds; deed++) {
                most = Math.max(most, place[deedStatue[deed]]);
            }
            return most;
        }

        int stopsAhead(int statue) {
            int count = 0;
            for (int other = 0; other < named[STATUE_SORT]; other++) {
                boolean nearer = place[other] < place[statue] || place[other] == place[statue] && other < statue;
                if (nearer && deedsAt(other) > 0) {
                    count++;
                }
            }
            return count;
        }
    }

    /** The two sums of a city, operands ahead of what is done with them: a number is itself, all else is below 0. */
    private static final class Sums {
        static final int LEAVES = 0;
        static final int DRAWS = 1;

        // Facts; as a step a fact is -1 less its number.
        static final int DAY = 0;
        static final int FUND = 1;
        static final int TOLD = 2;
        static final int COSTS = 3;
        static final int RANK = 4;
        static final int SIEGE = 5;
        static final int LIKES = 6;
        static final int OFF = 7;
        static final int HUNGER = 8;
        static final int LEFT = 9;
        static final int FACTS = 10;

        static final int PLUS = -11;
        static final int MINUS = -12;
        static final int TIMES = -13;
        static final int OVER = -14;
        static final int REST = -15;
        static final int MIN = -16;
        static final int MAX = -17;
        static final int BELOW = -18;
        static final int ABOVE = -19;
        static final int SAME = -20;
        static final int AND = -21;
        static final int OR = -22;
        static final int NOT = -23;
        static final int IF = -24;

        private static final int WITHOUT = 4;
        private static final int MOST = 1000000;

        // Each step comes from a byte of its own, so a whole tape fits behind what holds without.
        private final int[] steps = new int[WITHOUT + MOST_BYTES];
        private int length;
        private final int[] from = new int[2];
        private final int[] to = new int[2];
        // Seven open brackets leave at most five operands waiting each, and three more.
        private final int[] stack = new int[40];

        /** Without leaves a deed leaves what it tells; without draws a plate draws by likes less off. */
        void clear() {
            length = 0;
            begin(LEAVES);
            add(-1 - TOLD);
            finish(LEAVES);
            begin(DRAWS);
            add(-1 - LIKES);
            add(-1 - OFF);
            add(MINUS);
            finish(DRAWS);
        }

        boolean isTold(int which) {
            return from[which] >= WITHOUT;
        }

        void begin(int which) {
            from[which] = length;
        }

        void finish(int which) {
            to[which] = length;
        }

        void add(int step) {
            if (length < steps.length) {
                steps[length] = step;
                length++;
            }
        }

        int value(int which, int[] facts) {
            int top = 0;
            for (int i = from[which]; i < to[which]; i++) {
                int step = steps[i];
                if (step >= -FACTS) {
                    if (top < stack.length) {
                        stack[top] = step >= 0 ? step : facts[-1 - step];
                        top++;
                    }
                } else if (step == NOT) {
                    if (top >= 1) {
                        stack[top - 1] = 1 - stack[top - 1];
                    }
                } else if (step == IF) {
                    if (top >= 3) {
                        stack[top - 3] = stack[top - 3] != 0 ? stack[top - 2] : stack[top - 1];
                        top -= 2;
                    }
                } else if (top >= 2) {
                    stack[top - 2] = combined(step, stack[top - 2], stack[top - 1]);
                    top--;
                }
            }
            return top > 0 ? stack[0] : 0;
        }

        private static int combined(int step, int a, int b) {
            switch (step) {
                case PLUS: return bounded((long) a + b);
                case MINUS: return bounded((long) a - b);
                case TIMES: return bounded((long) a * b);
                case OVER: return b == 0 ? 0 : Math.floorDiv(a, b);
                case REST: return b == 0 ? 0 : Math.floorMod(a, b);
                case MIN: return Math.min(a, b);
                case MAX: return Math.max(a, b);
                case BELOW: return a < b ? 1 : 0;
                case ABOVE: return a > b ? 1 : 0;
                case SAME: return a == b ? 1 : 0;
                case AND: return a != 0 && b != 0 ? 1 : 0;
                case OR: return a != 0 || b != 0 ? 1 : 0;
                default: return 0;
            }
        }

        private static int bounded(long value) {
            if (value > MOST) {
                return MOST;
            }
            return value < -MOST ? -MOST : (int) value;
        }
    }

    /** One day's plates and eaters: first cook, then serve. */
    private static final class Table {
        final int[] facts = new int[Sums.FACTS];
        final int[] put = new int[DEEDS];
        final int[] left = new int[DEEDS];
        final int[] fails = new int[DEEDS];
        final int[] ate = new int[EATERS];
        final int[] first = new int[EATERS];
        final int[] meal = new int[MOST_KEPT];
        int meals;
        int fund;

        void cook(City town, int[] portions, int day, int coins, int siege) {
            fund = coins;
            meals = 0;
            facts[Sums.DAY] = day;
            facts[Sums.SIEGE] = siege;
            for (int deed = 0; deed < town.deeds; deed++) {
                int cost = town.cost[town.deedDish[deed]];
                facts[Sums.FUND] = fund;
                facts[Sums.TOLD] = portions[deed];
                facts[Sums.COSTS] = cost;
                facts[Sums.RANK] = deed;
                int sum = town.sums.value(Sums.LEAVES, facts);
                int due = Math.max(0, Math.min(portions[deed], sum));
                boolean paid = due * cost <= fund;
                put[deed] = paid ? due : 0;
                left[deed] = put[deed];
                fails[deed] = paid ? 0 : 1;
                fund -= put[deed] * cost;
            }
            facts[Sums.FUND] = fund;
        }

        int serveAll(City town) {
            int eaten = 0;
            for (int eater = 0; eater < town.named[EATER_SORT]; eater++) {
                serve(town, eater);
                eaten += ate[eater];
            }
            return eaten;
        }

        void serve(City town, int eater) {
            int where = town.sleeps[eater];
            ate[eater] = 0;
            first[eater] = NONE;
            for (int wants = town.hunger[eater]; wants > 0; wants--) {
                int deed = bestPlate(town, eater, where, wants);
                if (deed == NONE) {
                    return;
                }
                left[deed]--;
                ate[eater]++;
                where = town.place[town.deedStatue[deed]];
                if (first[eater] == NONE) {
                    first[eater] = deed;
                }
                if (meals < MOST_KEPT) {
                    meal[meals] = eater * DEEDS + deed;
                    meals++;
                }
            }
        }

        private int bestPlate(City town, int eater, int where, int wants) {
            int best = NONE;
            int most = 0;
            facts[Sums.HUNGER] = wants;
            for (int deed = 0; deed < town.deeds; deed++) {
                if (left[deed] > 0) {
                    facts[Sums.LIKES] = town.likes[eater][town.deedDish[deed]];
                    facts[Sums.OFF] = Math.abs(where - town.place[town.deedStatue[deed]]);
                    facts[Sums.LEFT] = left[deed];
                    int sum = town.sums.value(Sums.DRAWS, facts);
                    if (sum > most) {
                        most = sum;
                        best = deed;
                    }
                }
            }
            return best;
        }

        int grownFund(City town) {
            return Math.min(MOST_COINS, fund + fund * town.grows / 100);
        }

        int hungerOfAll(City town) {
            int sum = 0;
            for (int eater = 0; eater < town.named[EATER_SORT]; eater++) {
                sum += town.hunger[eater] - ate[eater];
            }
            return sum;
        }

        int sum(City town, int[] row) {
            int sum = 0;
            for (int deed = 0; deed < town.deeds; deed++) {
                sum += row[deed];
            }
            return sum;
        }

        int firstFailing(City town) {
            for (int deed = 0; deed < town.deeds; deed++) {
                if (fails[deed] != 0) {
                    return deed;
                }
            }
            return NONE;
        }
    }

    /** What acts change, and undo brings back. */
    private static final class State {
        int day;
        int coins;
        final int[] portions = new int[DEEDS];
        final int[] meal = new int[MOST_KEPT];
        int meals;

        void begin(City town) {
            day = 0;
            coins = town.fund;
            System.arraycopy(town.deedPortions, 0, portions, 0, DEEDS);
            meals = 0;
        }

        void copy(State other) {
            day = other.day;
            coins = other.coins;
            System.arraycopy(other.portions, 0, portions, 0, DEEDS);
            System.arraycopy(other.meal, 0, meal, 0, other.meals);
            meals = other.meals;
        }

        void keepMeals(Table table) {
            System.arraycopy(table.meal, 0, meal, 0, table.meals);
            meals = table.meals;
        }
    }

    /** The days ahead, reckoned as far as they have been asked for. */
    private static final class Ahead {
        static final int ROWS = 4;

        // By what later() asks: coins, hunger, portions left, deeds broken.
        final int[][] rows = new int[ROWS][MOST_AHEAD + 1];
        int reached;
        int day;
        int coins;
        int failsIn;
        int failsFirst;

        void restart(State now) {
            reached = 0;
            day = now.day;
            coins = now.coins;
            rows[0][0] = coins;
            failsIn = NONE;
            failsFirst = NONE;
        }

        void step(City town, int[] portions, Table table) {
            if (reached >= MOST_AHEAD) {
                return;
            }
            table.cook(town, portions, day, coins, 0);
            table.serveAll(town);
            day++;
            coins = table.grownFund(town);
            reached++;
            rows[0][reached] = coins;
            rows[1][reached] = table.hungerOfAll(town);
            rows[2][reached] = table.sum(town, table.left);
            rows[3][reached] = table.sum(town, table.fails);
            if (failsIn == NONE && rows[3][reached] > 0) {
                failsIn = reached;
                failsFirst = table.firstFailing(town);
            }
        }
    }

    /** Which deeds to keep for so many coins. */
    private static final class Choice {
        private static final int TOO_DEAR = 1000000;
        private static final int MOST_TOGETHER = DEEDS * MOST_PORTIONS;

        // The fewest coins for which some of the first deeds have just so many portions.
        final int[][] least = new int[DEEDS + 1][MOST_TOGETHER + 1];
        int bits;
        int portions;
        int coins;

        void reckon(City town, int[] told, int most) {
            fill(town, told);
            portions = 0;
            for (int sum = 1; sum <= MOST_TOGETHER; sum++) {
                if (least[town.deeds][sum] <= most) {
                    portions = sum;
                }
            }
            choose(town, told, most);
        }

        private void fill(City town, int[] told) {
            Arrays.fill(least[0], TOO_DEAR);
            least[0][0] = 0;
            for (int deed = 0; deed < town.deeds; deed++) {
                int price = told[deed] * town.cost[town.deedDish[deed]];
                for (int sum = 0; sum <= MOST_TOGETHER; sum++) {
                    int fewest = least[deed][sum];
                    int rest = sum - told[deed];
                    if (rest >= 0) {
                        fewest = Math.min(fewest, least[deed][rest] + price);
                    }
                    least[deed + 1][sum] = fewest;
                }
            }
        }

        /** The least bits come from leaving out the last deeds wherever the ones ahead can do without. */
        private void choose(City town, int[] told, int most) {
            int wanted = portions;
            bits = 0;
            coins = 0;
            for (int deed = town.deeds - 1; deed >= 0; deed--) {
                boolean needed = least[deed][wanted] > most - coins;
                if (needed && wanted >= told[deed]) {
                    bits |= 1 << deed;
                    wanted -= told[deed];
                    coins += told[deed] * town.cost[town.deedDish[deed]];
                }
            }
        }
    }

    /** By which sets of eaters the plates are left as seen. */
    private static final class Guests {
        final int[] deed = new int[MOST_SEEN];
        final int[] left = new int[MOST_SEEN];
        int rows;
        boolean known;
        int sets;
        int inAll;
        int inSome;
        final int[][] before = new int[EATERS][DEEDS];

        /** The table is cooked, and nobody has come yet. */
        void reckon(City town, Table table) {
            sets = 0;
            inAll = (1 << town.named[EATER_SORT]) - 1;
            inSome = 0;
            tryFrom(town, table, 0, 0);
            if (sets == 0) {
                inAll = 0;
            }
            known = true;
        }

        /** All sets that begin like this one, with the plates as those before this eater left them. */
        private void tryFrom(City town, Table table, int eater, int set) {
            if (eater >= town.named[EATER_SORT] || eater >= EATERS) {
                count(table, set);
                return;
            }
            System.arraycopy(table.left, 0, before[eater], 0, DEEDS);
            tryFrom(town, table, eater + 1, set);
            System.arraycopy(before[eater], 0, table.left, 0, DEEDS);
            table.serve(town, eater);
            tryFrom(town, table, eater + 1, set | 1 << eater);
        }

        private void count(Table table, int set) {
            for (int row = 0; row < rows; row++) {
                if (table.left[deed[row]] != left[row]) {
                    return;
                }
            }
            sets++;
            inAll &= set;
            inSome |= set;
        }
    }

    /** Where eaters come to rest who mind each other. */
    private static final class Places {
        final int[] taken = new int[EATERS];
        final int[] there = new int[STATUES];
        final int[] brings = new int[STATUES];
        int calmRound;

        void reckon(City town, int[] put) {
            int eaters = town.named[EATER_SORT];
            Arrays.fill(taken, 0);
            Arrays.fill(there, 0);
            there[0] = eaters;
            for (calmRound = 1; calmRound <= MOST_ROUNDS; calmRound++) {
                boolean calm = true;
                for (int eater = 0; eater < eaters; eater++) {
                    int best = bestStatue(town, put, eater);
                    if (best != taken[eater]) {
                        calm = false;
                        there[taken[eater]]--;
                        there[best]++;
                        taken[eater] = best;
                    }
                }
                if (calm) {
                    return;
                }
            }
        }

        private int bestStatue(City town, int[] put, int eater) {
            findBrings(town, put, eater);
            int own = taken[eater];
            int best = own;
            int most = shareAt(own, own);
            // Strictly more is asked, so his own stays where it is among the best, else the first is found.
            for (int statue = 0; statue < town.named[STATUE_SORT]; statue++) {
                int share = shareAt(statue, own);
                if (share > most) {
                    most = share;
                    best = statue;
                }
            }
            return best;
        }

        private int shareAt(int statue, int own) {
            int together = there[statue] + (statue == own ? 0 : 1);
            return together <= 0 ? 0 : brings[statue] / together;
        }

        private void findBrings(City town, int[] put, int eater) {
            Arrays.fill(brings, 0);
            for (int deed = 0; deed < town.deeds; deed++) {
                brings[town.deedStatue[deed]] += put[deed] * town.likes[eater][town.deedDish[deed]];
            }
        }
    }

    /** Cuts a text into words, numbers and signs. */
    private static final class Reader {
        static final int END = 0;
        static final int OWN = 1;
        static final int NAME = 2;
        static final int NUMBER = 3;
        static final int SIGN = 4;
        static final int BAD = 5;

        // The own words, numbered as they stand in OWN_TEXT.
        static final int STATUE = 0;
        static final int DISH = 1;
        static final int DEED = 2;
        static final int EATER = 3;
        static final int LIKES = 4;
        static final int LEAVES = 5;
        static final int DRAWS = 6;
        static final int FUND = 7;
        static final int PACE = 8;
        static final int SIEGE = 9;
        static final int AT = 10;
        static final int COSTS = 11;
        static final int WARM = 12;
        static final int HUNGER = 13;
        static final int GROWS = 14;
        static final int DAY = 15;
        static final int TOLD = 16;
        static final int RANK = 17;
        static final int OFF = 18;
        static final int LEFT = 19;
        static final int IF = 20;
        static final int OR = 21;
        static final int AND = 22;
        static final int NOT = 23;
        static final int ALL = 24;
        static final int MIN = 25;
        static final int MAX = 26;
        private static final int OWN_WORDS = 27;
        private static final String OWN_TEXT = "statue dish deed eater likes leaves draws fund pace siege at costs warm hunger grows day told rank off left if or and not all min max ";

        private static final String SIGNS = ";()[],+-*/%<>=";
        private static final int MOST_DIGITS = 4;

        // What was read last: its kind, its value (an own word's number, a name's letters, a number, a sign),
        // its first byte, and the byte at which it would be a fault that it stands there.
        int kind;
        int value;
        int start;
        int trouble;
        private byte[] text = new byte[0];
        private int length;
        private int at;
        private final int[] own = new int[OWN_WORDS];

        Reader() {
            int word = 0;
            int shift = LETTER_BITS * NAME_LETTERS;
            int count = 0;
            for (int i = 0; i < OWN_TEXT.length() && count < OWN_WORDS; i++) {
                char c = OWN_TEXT.charAt(i);
                if (c == ' ') {
                    own[count] = word;
                    count++;
                    word = 0;
                    shift = LETTER_BITS * NAME_LETTERS;
                } else {
                    shift -= LETTER_BITS;
                    word |= c - 'a' + 1 << shift;
                }
            }
        }

        void begin(byte[] bytes, int count) {
            text = bytes;
            length = Math.min(count, bytes.length);
            at = 0;
            kind = END;
            next();
        }

        void next() {
            boolean behindWord = kind == OWN || kind == NAME || kind == NUMBER;
            int before = at;
            while (at < length && (text[at] == 10 || text[at] == 32)) {
                at++;
            }
            boolean needsBlank = behindWord && at == before;
            start = at;
            trouble = at;
            if (at >= length) {
                kind = END;
            } else if (!isLetter(text[at]) && !isDigit(text[at])) {
                readSign();
            } else if (needsBlank) {
                kind = BAD;
            } else if (isLetter(text[at])) {
                readWord();
            } else {
                readNumber();
            }
        }

        private void readSign() {
            value = text[at] & 255;
            kind = SIGNS.indexOf((char) value) >= 0 ? SIGN : BAD;
            at++;
        }

        // A sum's brackets are many calls down already, so the two below call nothing more.

        private void readWord() {
            int word = 0;
            int letters = 0;
            for (; at < length && text[at] >= 'a' && text[at] <= 'z'; at++) {
                if (letters == NAME_LETTERS) {
                    kind = BAD;
                    trouble = at;
                    return;
                }
                word = word << LETTER_BITS | text[at] - 'a' + 1;
                letters++;
            }
            kind = NAME;
            value = word << LETTER_BITS * (NAME_LETTERS - letters);
            for (int i = 0; i < OWN_WORDS; i++) {
                if (own[i] == value) {
                    kind = OWN;
                    value = i;
                    return;
                }
            }
        }

        private void readNumber() {
            int digits = 0;
            value = 0;
            kind = NUMBER;
            for (; at < length && text[at] >= '0' && text[at] <= '9'; at++) {
                if (digits == MOST_DIGITS) {
                    kind = BAD;
                    trouble = at;
                    return;
                }
                value = value * 10 + text[at] - '0';
                digits++;
            }
        }

        private static boolean isLetter(int octet) {
            return octet >= 'a' && octet <= 'z';
        }

        private static boolean isDigit(int octet) {
            return octet >= '0' && octet <= '9';
        }
    }

    /** Reads a text into a city of its own, up to the first fault. */
    private static final class Parser {
        private static final int CANNOT_GO_ON = 1;
        private static final int NAME_TAKEN = 2;
        private static final int NAME_UNKNOWN = 3;
        private static final int BAD_NUMBER = 4;
        private static final int TOO_DEEP = 5;
        private static final int TOO_MANY = 6;

        City town = new City();
        int statements;
        int fault;
        int place = NONE;
        private final Reader reader = new Reader();
        private int number;
        private int telling;

        boolean parse(byte[] text, int length) {
            town.clear();
            statements = 0;
            fault = 0;
            place = NONE;
            reader.begin(text, length);
            for (int i = 0; i <= MOST_STATEMENTS && reader.kind != Reader.END; i++) {
                if (i == MOST_STATEMENTS) {
                    return wrong(TOO_MANY);
                }
                if (!statement() || !takeSign(';')) {
                    return false;
                }
                statements++;
            }
            return true;
        }

        private boolean wrong(int kind) {
            fault = kind;
            place = kind == CANNOT_GO_ON ? reader.trouble : reader.start;
            return false;
        }

        private boolean statement() {
            if (reader.kind != Reader.OWN) {
                return wrong(CANNOT_GO_ON);
            }
            switch (reader.value) {
                case Reader.STATUE: return tellStatue();
                case Reader.DISH: return tellDish();
                case Reader.DEED: return tellDeed();
                case Reader.EATER: return tellEater();
                case Reader.LIKES: return tellLikes();
                case Reader.LEAVES: return tellSum(Sums.LEAVES);
                case Reader.DRAWS: return tellSum(Sums.DRAWS);
                case Reader.FUND: return tellFund();
                case Reader.PACE: return tellPace();
                case Reader.SIEGE: return tellSiege();
                default: return wrong(CANNOT_GO_ON);
            }
        }

        private boolean tellStatue() {
            int statue = newName(STATUE_SORT);
            if (statue == NONE || !takeWord(Reader.AT) || !takeNumber(0, 99)) {
                return false;
            }
            town.place[statue] = number;
            return true;
        }

        private boolean tellDish() {
            int dish = newName(DISH_SORT);
            if (dish == NONE || !takeWord(Reader.COSTS) || !takeNumber(0, 99)) {
                return false;
            }
            town.cost[dish] = number;
            if (!takeWord(Reader.WARM) || !takeNumber(1, 999)) {
                return false;
            }
            town.warm[dish] = number;
            return true;
        }

        private boolean tellDeed() {
            if (town.deeds >= DEEDS) {
                return wrong(TOO_MANY);
            }
            reader.next();
            int statue = knownName(STATUE_SORT);
            if (statue == NONE) {
                return false;
            }
            reader.next();
            int dish = knownName(DISH_SORT);
            if (dish == NONE) {
                return false;
            }
            if (town.hasDeed(statue, dish)) {
                return wrong(NAME_UNKNOWN);
            }
            reader.next();
            if (!takeNumber(1, MOST_PORTIONS)) {
                return false;
            }
            town.deedStatue[town.deeds] = statue;
            town.deedDish[town.deeds] = dish;
            town.deedPortions[town.deeds] = number;
            town.deeds++;
            return true;
        }

        private boolean tellEater() {
            int eater = newName(EATER_SORT);
            if (eater == NONE || !takeWord(Reader.HUNGER) || !takeNumber(1, MOST_HUNGER)) {
                return false;
            }
            town.hunger[eater] = number;
            if (!takeWord(Reader.AT) || !takeNumber(0, 99)) {
                return false;
            }
            town.sleeps[eater] = number;
            return true;
        }

        private boolean tellLikes() {
            reader.next();
            int eater = knownName(EATER_SORT);
            if (eater == NONE) {
                return false;
            }
            reader.next();
            int dish = knownName(DISH_SORT);
            if (dish == NONE) {
                return false;
            }
            reader.next();
            if (!takeNumber(0, 99)) {
                return false;
            }
            town.likes[eater][dish] = number;
            return true;
        }

        private boolean tellFund() {
            reader.next();
            if (!takeNumber(0, 9999)) {
                return false;
            }
            town.fund = number;
            if (!takeWord(Reader.GROWS) || !takeNumber(0, 100)) {
                return false;
            }
            town.grows = number;
            return true;
        }

        private boolean tellPace() {
            reader.next();
            if (!takeNumber(1, 20)) {
                return false;
            }
            town.pace = number;
            return true;
        }

        private boolean tellSiege() {
            reader.next();
            if (!takeNumber(0, 100)) {
                return false;
            }
            town.siege = number;
            return true;
        }

        private boolean tellSum(int which) {
            if (town.sums.isTold(which)) {
                return wrong(TOO_MANY);
            }
            reader.next();
            telling = which;
            town.sums.begin(which);
            if (!sum(0)) {
                return false;
            }
            town.sums.finish(which);
            return true;
        }

        /** Goes on behind the statement's word; answers the number of the one so named, or NONE with a fault. */
        private int newName(int sort) {
            int which = town.named[sort];
            if (which >= town.names[sort].length) {
                wrong(TOO_MANY);
                return NONE;
            }
            reader.next();
            if (reader.kind != Reader.NAME) {
                wrong(CANNOT_GO_ON);
                return NONE;
            }
            if (town.isTaken(reader.value)) {
                wrong(NAME_TAKEN);
                return NONE;
            }
            town.names[sort][which] = reader.value;
            town.named[sort]++;
            reader.next();
            return which;
        }

        /** Stays at the name, at which a fault may still be told. */
        private int knownName(int sort) {
            if (reader.kind != Reader.NAME) {
                wrong(CANNOT_GO_ON);
                return NONE;
            }
            int which = town.find(sort, reader.value);
            if (which == NONE) {
                wrong(NAME_UNKNOWN);
            }
            return which;
        }

        private boolean takeNumber(int least, int most) {
            if (reader.kind != Reader.NUMBER) {
                return wrong(CANNOT_GO_ON);
            }
            if (reader.value < least || reader.value > most) {
                return wrong(BAD_NUMBER);
            }
            number = reader.value;
            reader.next();
            return true;
        }

        private boolean isWord(int word) {
            return reader.kind == Reader.OWN && reader.value == word;
        }

        private boolean isSign(char sign) {
            return reader.kind == Reader.SIGN && reader.value == sign;
        }

        private boolean takeWord(int word) {
            if (!isWord(word)) {
                return wrong(CANNOT_GO_ON);
            }
            reader.next();
            return true;
        }

        private boolean takeSign(char sign) {
            if (!isSign(sign)) {
                return wrong(CANNOT_GO_ON);
            }
            reader.next();
            return true;
        }

        private boolean openBracket(char sign, int open) {
            if (!isSign(sign)) {
                return wrong(CANNOT_GO_ON);
            }
            if (open >= MOST_OPEN) {
                return wrong(TOO_DEEP);
            }
            reader.next();
            return true;
        }

        private boolean addStep(int step) {
            town.sums.add(step);
            return true;
        }

        // Each of these carries how many brackets and nots are open, which bounds how deep they go.

        private boolean sum(int open) {
            if (!product(open)) {
                return false;
            }
            for (int i = 0; i < MOST_BYTES && (isSign('+') || isSign('-')); i++) {
                int step = reader.value == '+' ? Sums.PLUS : Sums.MINUS;
                reader.next();
                if (!product(open)) {
                    return false;
                }
                town.sums.add(step);
            }
            return true;
        }

        private boolean product(int open) {
            if (!part(open)) {
                return false;
            }
            for (int i = 0; i < MOST_BYTES && (isSign('*') || isSign('/') || isSign('%')); i++) {
                int step = reader.value == '*' ? Sums.TIMES : reader.value == '/' ? Sums.OVER : Sums.REST;
                reader.next();
                if (!part(open)) {
                    return false;
                }
                town.sums.add(step);
            }
            return true;
        }

        private boolean part(int open) {
            if (isSign('(')) {
                return openBracket('(', open) && sum(open + 1) && takeSign(')');
            }
            if (isWord(Reader.MIN) || isWord(Reader.MAX)) {
                int step = reader.value == Reader.MIN ? Sums.MIN : Sums.MAX;
                reader.next();
                return openBracket('(', open) && sum(open + 1) && takeSign(',') && sum(open + 1) && takeSign(')') && addStep(step);
            }
            if (isWord(Reader.IF)) {
                reader.next();
                return openBracket('(', open) && test(open + 1) && takeSign(',') && sum(open + 1) && takeSign(',')
                    && sum(open + 1) && takeSign(')') && addStep(Sums.IF);
            }
            return leaf();
        }

        private boolean leaf() {
            if (reader.kind == Reader.NUMBER) {
                town.sums.add(reader.value);
                reader.next();
                return true;
            }
            int fact = reader.kind == Reader.OWN ? factOf(reader.value) : NONE;
            if (fact == NONE) {
                return wrong(CANNOT_GO_ON);
            }
            town.sums.add(-1 - fact);
            reader.next();
            return true;
        }

        private int factOf(int word) {
            boolean leaves = telling == Sums.LEAVES;
            switch (word) {
                case Reader.DAY: return Sums.DAY;
                case Reader.FUND: return Sums.FUND;
                case Reader.TOLD: return leaves ? Sums.TOLD : NONE;
                case Reader.COSTS: return leaves ? Sums.COSTS : NONE;
                case Reader.RANK: return leaves ? Sums.RANK : NONE;
                case Reader.SIEGE: return leaves ? Sums.SIEGE : NONE;
                case Reader.LIKES: return leaves ? NONE : Sums.LIKES;
                case Reader.OFF: return leaves ? NONE : Sums.OFF;
                case Reader.HUNGER: return leaves ? NONE : Sums.HUNGER;
                case Reader.LEFT: return leaves ? NONE : Sums.LEFT;
                default: return NONE;
            }
        }

        private boolean test(int open) {
            if (!both(open)) {
                return false;
            }
            for (int i = 0; i < MOST_BYTES && isWord(Reader.OR); i++) {
                reader.next();
                if (!both(open)) {
                    return false;
                }
                town.sums.add(Sums.OR);
            }
            return true;
        }

        private boolean both(int open) {
            if (!fact(open)) {
                return false;
            }
            for (int i = 0; i < MOST_BYTES && isWord(Reader.AND); i++) {
                reader.next();
                if (!fact(open)) {
                    return false;
                }
                town.sums.add(Sums.AND);
            }
            return true;
        }

        private boolean fact(int open) {
            if (isWord(Reader.NOT)) {
                if (open >= MOST_OPEN) {
                    return wrong(TOO_DEEP);
                }
                reader.next();
                return fact(open + 1) && addStep(Sums.NOT);
            }
            if (isSign('[')) {
                return openBracket('[', open) && test(open + 1) && takeSign(']');
            }
            if (isWord(Reader.ALL)) {
                reader.next();
                return addStep(1);
            }
            return sum(open) && comparison(open);
        }

        private boolean comparison(int open) {
            if (!isSign('<') && !isSign('>') && !isSign('=')) {
                return wrong(CANNOT_GO_ON);
            }
            int step = reader.value == '<' ? Sums.BELOW : reader.value == '>' ? Sums.ABOVE : Sums.SAME;
            reader.next();
            return sum(open) && addStep(step);
        }
    }
}
