/** Givers, works, and a purse that adds to gifts by a rule told as a text: ../shared/DOC.md. */
public final class GiftMatch {
    public static final int NONE = -1, BAD = -2, NO = -3, FULL = -4;

    private static final int GIVERS = 5, WORKS = 3, RULES = 3, IMAGES = 2;
    private static final int COIN_TOP = 12, BAR_TOP = 60, FIRST_TOP = 200, FALL_TOP = 50;
    private static final int KEEP_TOP = 99, PURSE_TOP = 200, PARTED_TOP = 2;
    private static final int TEXT = 40, CHARACTER_TOP = 127, DIGITS = 6, BRACKETS = 8;
    private static final int TOLD_TOP = 99, WORTH_COINS = 60;
    private static final int ROUNDS = 40, HANDS = 4, COST_TOP = 999, LAWS = 4;
    private static final int AT_REST = 0, IN_RING = 1, SPENT = 2;
    private static final int NO_GIVERS = -5, BAD_CHOICE = -10, BAD_ANYWAY = -1000;
    private static final int NEGATIVE = '~';
    private static final int COMPARING = 3, PREFIXED = 6;
    private static final long ROOT_ONE = 1000000L;

    /** For gifts of 0 to 12 coins: the millionths of their roots, cut. */
    private static final int[] ROOTS = {
        0, 1000000, 1414213, 1732050, 2000000, 2236067, 2449489,
        2645751, 2828427, 3000000, 3162277, 3316624, 3464101
    };

    private final Scene scene = new Scene();
    private final Scene bare = new Scene();
    private final Scene[] images = new Scene[IMAGES];
    private final boolean[] isKept = new boolean[IMAGES];
    private final Reader reader = new Reader();
    private final Sight sight = new Sight();
    private final Ledger ledger = new Ledger(sight);
    private final Chooser chooser = new Chooser(ledger);
    private final Rounds rounds = new Rounds(chooser);
    private final Common common = new Common();
    private final Partings partings = new Partings(ledger);
    private final Laws laws = new Laws(sight);

    public GiftMatch() {
        for (int i = 0; i < IMAGES; i++) {
            images[i] = new Scene();
        }
    }

    // ---- givers, works, rules

    public int giver(int coin) {
        if (!isWithin(coin, COIN_TOP)) {
            return BAD;
        }
        if (scene.givers >= GIVERS) {
            return FULL;
        }
        scene.coin[scene.givers] = coin;
        scene.givers++;
        return scene.givers - 1;
    }

    public int work(int bar) {
        if (!isWithin(bar, BAR_TOP)) {
            return BAD;
        }
        if (scene.works >= WORKS) {
            return FULL;
        }
        scene.bar[scene.works] = bar;
        scene.works++;
        return scene.works - 1;
    }

    public int worth(int giver, int work, int first, int fall) {
        if (!isPair(giver, work) || !isWithin(first, FIRST_TOP) || !isWithin(fall, FALL_TOP)) {
            return BAD;
        }
        scene.first[giver * WORKS + work] = first;
        scene.fall[giver * WORKS + work] = fall;
        return 1;
    }

    public int set(int what, int v) {
        switch (what) {
            case 0:
                return setKeep(v);
            case 1:
                return setTheRule(v);
            case 2:
                return setPurse(v);
            case 3:
                return setParted(v);
            default:
                return BAD;
        }
    }

    public int write(int rule, int character) {
        if (!isRule(rule) || !isWithin(character, CHARACTER_TOP)) {
            return BAD;
        }
        Rule written = scene.rules[rule];
        if (written.length >= TEXT) {
            return FULL;
        }
        written.text[written.length] = character;
        written.length++;
        reader.read(written);
        return written.length;
    }

    public int erase(int rule) {
        if (!isRule(rule)) {
            return BAD;
        }
        Rule erased = scene.rules[rule];
        int length = erased.length;
        erased.length = 0;
        reader.read(erased);
        return length;
    }

    public int fault(int rule) {
        return isRule(rule) ? scene.rules[rule].flaw : BAD;
    }

    // ---- gifts

    public int give(int giver, int work, int coins) {
        if (!isPair(giver, work) || !isWithin(coins, COIN_TOP)) {
            return BAD;
        }
        int place = giver * WORKS + work;
        int before = scene.gift[place];
        if (scene.givenBy(giver) - before + coins > scene.coin[giver]) {
            return BAD;
        }
        scene.gift[place] = coins;
        return before;
    }

    public int amount(int work, int what) {
        if (!isWork(work)) {
            return BAD;
        }
        ledger.fill(scene);
        switch (what) {
            case 0:
                return ledger.gifts[work];
            case 1:
                return ledger.would[work];
            case 2:
                return ledger.added[work];
            case 3:
                return ledger.gifts[work] + ledger.added[work];
            default:
                return BAD;
        }
    }

    public int isShort() {
        ledger.fill(scene);
        return ledger.lacks ? 1 : 0;
    }

    public int has(int giver) {
        if (giver != NONE && !isGiver(giver)) {
            return BAD;
        }
        ledger.fill(scene);
        return giver == NONE ? ledger.allHave(scene) : ledger.haveOf(scene, giver, scene.keptBy(giver));
    }

    public int best(int giver, int what) {
        if (!isGiver(giver) || (what != NONE && !isWork(what))) {
            return BAD_CHOICE;
        }
        chooser.choose(scene, giver);
        return what == NONE ? chooser.most : chooser.row[what];
    }

    public int rest(int what) {
        if (!isWithin(what, 1)) {
            return BAD_CHOICE;
        }
        for (int giver = 0; giver < scene.givers; giver++) {
            chooser.choose(scene, giver);
            int more = chooser.most - chooser.before;
            if (more > 0) {
                return what == 0 ? giver : more;
            }
        }
        return NONE;
    }

    public int turns() {
        return scene.givers == 0 ? NO_GIVERS : rounds.run(scene);
    }

    public int good(int what) {
        if (what != NONE && !isWork(what)) {
            return BAD_CHOICE;
        }
        common.find(scene);
        return what == NONE ? common.most : common.row[what];
    }

    public int lost() {
        common.find(scene);
        ledger.fill(scene);
        return common.most - ledger.allHave(scene);
    }

    // ---- hands, laws

    public int gain(int giver, int work) {
        if (!isPair(giver, work)) {
            return BAD;
        }
        partings.weighAll(scene, giver, work);
        return partings.most();
    }

    public int hand(int giver, int work) {
        if (!isPair(giver, work)) {
            return BAD;
        }
        partings.weighAll(scene, giver, work);
        int cost = partings.leastCost();
        return cost > COST_TOP ? NONE : cost;
    }

    public int anyway(int what) {
        if (!isWithin(what, 1)) {
            return BAD_ANYWAY;
        }
        bare.takePeople(scene);
        rounds.run(bare);
        int coins = bare.givenInAll();
        return what == 0 ? coins : scene.givenInAll() - coins;
    }

    public int breach(int rule, int law, int top) {
        if (!isRule(rule) || !isWithin(law, LAWS - 1) || top < 1 || top > COIN_TOP) {
            return BAD;
        }
        Rule tried = scene.rules[rule];
        for (int a = 0; a <= top; a++) {
            for (int b = 0; b <= top; b++) {
                if (!laws.hold(tried, law, top, a, b)) {
                    return 100 * a + b;
                }
            }
        }
        return NONE;
    }

    // ---- images

    public int image(int i) {
        if (!isWithin(i, IMAGES - 1)) {
            return BAD;
        }
        images[i].take(scene);
        isKept[i] = true;
        return 1;
    }

    public int from(int i) {
        if (!isWithin(i, IMAGES - 1)) {
            return BAD;
        }
        if (!isKept[i]) {
            return NO;
        }
        scene.take(images[i]);
        return 1;
    }

    public int count(int what) {
        switch (what) {
            case 0:
                return scene.givers;
            case 1:
                return scene.works;
            case 2:
                return scene.givenInAll();
            case 3:
                return scene.coinInAll();
            default:
                return BAD;
        }
    }

    public long digest() {
        ledger.fill(scene);
        long h = 461;
        for (int what = 0; what <= 3; what++) {
            h = 31 * h + count(what);
        }
        h = digestGivers(h);
        h = digestWorks(h);
        h = 31 * h + scene.keep;
        h = 31 * h + scene.theRule;
        h = 31 * h + scene.purse;
        h = 31 * h + scene.parted;
        h = digestRules(h);
        return 31 * h + ledger.allHave(scene);
    }

    private long digestGivers(long start) {
        long h = start;
        for (int giver = 0; giver < scene.givers; giver++) {
            h = 31 * h + scene.coin[giver];
            for (int work = 0; work < WORKS; work++) {
                int place = giver * WORKS + work;
                h = 31 * h + scene.first[place];
                h = 31 * h + scene.fall[place];
                h = 31 * h + scene.gift[place];
            }
        }
        return h;
    }

    private long digestWorks(long start) {
        long h = start;
        for (int work = 0; work < scene.works; work++) {
            h = 31 * h + scene.bar[work];
            h = 31 * h + ledger.gifts[work];
            h = 31 * h + ledger.would[work];
            h = 31 * h + ledger.added[work];
            h = 31 * h + ledger.gifts[work] + ledger.added[work];
        }
        return h;
    }

    private long digestRules(long start) {
        long h = start;
        for (int rule = 0; rule < RULES; rule++) {
            Rule told = scene.rules[rule];
            h = 31 * h + told.length;
            for (int place = 0; place < told.length; place++) {
                h = 31 * h + told.text[place];
            }
        }
        return h;
    }

    private int setKeep(int v) {
        if (!isWithin(v, KEEP_TOP)) {
            return BAD;
        }
        int before = scene.keep;
        scene.keep = v;
        return before;
    }

    private int setTheRule(int v) {
        if (!isRule(v)) {
            return BAD;
        }
        int before = scene.theRule;
        scene.theRule = v;
        return before;
    }

    private int setPurse(int v) {
        if (!isWithin(v, PURSE_TOP)) {
            return BAD;
        }
        int before = scene.purse;
        scene.purse = v;
        return before;
    }

    private int setParted(int v) {
        if (!isWithin(v, PARTED_TOP)) {
            return BAD;
        }
        int before = scene.parted;
        scene.parted = v;
        return before;
    }

    private static boolean isWithin(int v, int top) {
        return v >= 0 && v <= top;
    }

    private static boolean isRule(int rule) {
        return isWithin(rule, RULES - 1);
    }

    private boolean isGiver(int giver) {
        return giver >= 0 && giver < scene.givers;
    }

    private boolean isWork(int work) {
        return work >= 0 && work < scene.works;
    }

    private boolean isPair(int giver, int work) {
        return isGiver(giver) && isWork(work);
    }

    /** A text, and the steps that work it out: numbers as they are, signs as negative characters. */
    private static final class Rule {
        final int[] text = new int[TEXT];
        final int[] steps = new int[TEXT];
        int length = 0;
        int stepCount = 0;
        int flaw = 1;

        void take(Rule other) {
            System.arraycopy(other.text, 0, text, 0, TEXT);
            System.arraycopy(other.steps, 0, steps, 0, TEXT);
            length = other.length;
            stepCount = other.stepCount;
            flaw = other.flaw;
        }

        void addStep(int step) {
            if (stepCount < TEXT) {
                steps[stepCount] = step;
                stepCount++;
            }
        }
    }

    /** Reads a text from left to right into steps, each sign behind what it works on. */
    private static final class Reader {
        private final int[] waiting = new int[TEXT];
        private int waitCount;
        private int brackets;
        private int digits;
        private boolean wantsUnit;

        void read(Rule rule) {
            waitCount = 0;
            brackets = 0;
            digits = 0;
            wantsUnit = true;
            rule.stepCount = 0;
            rule.flaw = NONE;
            for (int place = 0; place < rule.length && rule.flaw == NONE; place++) {
                readCharacter(rule, place);
            }
            if (rule.flaw == NONE && (wantsUnit || brackets > 0)) {
                rule.flaw = 10 * rule.length + 1;
            }
            release(rule, 1);
        }

        private void readCharacter(Rule rule, int place) {
            int character = rule.text[place];
            if (character >= '0' && character <= '9') {
                readDigit(rule, place, character - '0');
                return;
            }
            digits = 0;
            if (character == ' ') {
                return;
            }
            boolean stands = wantsUnit ? readUnit(rule, place) : readBehindUnit(rule, character);
            if (!stands && rule.flaw == NONE) {
                rule.flaw = 10 * place + 1;
            }
        }

        private void readDigit(Rule rule, int place, int digit) {
            int last = rule.stepCount - 1;
            if (digits == DIGITS) {
                rule.flaw = 10 * (place - DIGITS) + 2;
            } else if (digits > 0 && last >= 0) {
                rule.steps[last] = 10 * rule.steps[last] + digit;
                digits++;
            } else if (wantsUnit) {
                rule.addStep(digit);
                wantsUnit = false;
                digits = 1;
            } else {
                rule.flaw = 10 * place + 1;
            }
        }

        private boolean readUnit(Rule rule, int place) {
            int character = rule.text[place];
            switch (character) {
                case 's':
                case 'n':
                case 'm':
                case 'l':
                case 'r':
                    rule.addStep(-character);
                    wantsUnit = false;
                    return true;
                case '!':
                    hold('!');
                    return true;
                case '-':
                    hold(NEGATIVE);
                    return true;
                case '(':
                    if (brackets >= BRACKETS) {
                        rule.flaw = 10 * place + 3;
                        return false;
                    }
                    brackets++;
                    hold('(');
                    return true;
                default:
                    return false;
            }
        }

        private boolean readBehindUnit(Rule rule, int character) {
            if (character == ')') {
                return closeBracket(rule);
            }
            int rank = rankOf(character);
            if (rank == 0 || rank == PREFIXED) {
                return false;
            }
            // One comparison does not go on from another, so an equal one is left to be seen.
            release(rule, rank == COMPARING ? rank + 1 : rank);
            if (rank == COMPARING && lastRank() == COMPARING) {
                return false;
            }
            hold(character);
            wantsUnit = true;
            return true;
        }

        private boolean closeBracket(Rule rule) {
            if (brackets == 0) {
                return false;
            }
            release(rule, 1);
            brackets--;
            if (waitCount > 0) {
                waitCount--;
            }
            return true;
        }

        private void hold(int sign) {
            if (waitCount < TEXT) {
                waiting[waitCount] = sign;
                waitCount++;
            }
        }

        private void release(Rule rule, int leastRank) {
            while (waitCount > 0 && rankOf(waiting[waitCount - 1]) >= leastRank) {
                waitCount--;
                rule.addStep(-waiting[waitCount]);
            }
        }

        private int lastRank() {
            return waitCount > 0 ? rankOf(waiting[waitCount - 1]) : 0;
        }

        /** How tightly a sign binds; 0 for brackets and for what is no sign. */
        private static int rankOf(int sign) {
            switch (sign) {
                case '|':
                    return 1;
                case '&':
                    return 2;
                case '<':
                case '>':
                case '=':
                    return COMPARING;
                case '+':
                case '-':
                    return 4;
                case '*':
                case '/':
                    return 5;
                case '!':
                case NEGATIVE:
                    return PREFIXED;
                default:
                    return 0;
            }
        }
    }

    /** The gifts to one work as a rule sees them, and what it tells of them. */
    private static final class Sight {
        private final long[] stack = new long[TEXT];
        private int height;
        private int sum;
        private int heads;
        private int greatest;
        private int least;
        private long rootSum;

        void clear() {
            sum = 0;
            heads = 0;
            greatest = 0;
            least = 0;
            rootSum = 0;
        }

        void see(int coins) {
            if (coins <= 0 || coins > COIN_TOP) {
                return;
            }
            sum += coins;
            heads++;
            greatest = Math.max(greatest, coins);
            least = least == 0 ? coins : Math.min(least, coins);
            rootSum += ROOTS[coins];
        }

        void seeAllBut(Scene scene, int work, int absent) {
            clear();
            for (int giver = 0; giver < scene.givers; giver++) {
                if (giver != absent) {
                    see(scene.gift[giver * WORKS + work]);
                }
            }
        }

        int toldBy(Rule rule) {
            if (rule.flaw != NONE) {
                return 0;
            }
            height = 0;
            for (int i = 0; i < rule.stepCount; i++) {
                int step = rule.steps[i];
                if (step >= 0) {
                    push(step);
                } else {
                    doStep(-step);
                }
            }
            return (int) Math.max(0, Math.min(TOLD_TOP, pop()));
        }

        private void doStep(int sign) {
            switch (sign) {
                case 's':
                    push(sum);
                    break;
                case 'n':
                    push(heads);
                    break;
                case 'm':
                    push(greatest);
                    break;
                case 'l':
                    push(least);
                    break;
                case 'r':
                    push(rootSum * rootSum / (ROOT_ONE * ROOT_ONE));
                    break;
                case '!':
                    push(pop() == 0 ? 1 : 0);
                    break;
                case NEGATIVE:
                    push(-pop());
                    break;
                default:
                    long right = pop();
                    long left = pop();
                    push(joined(sign, left, right));
                    break;
            }
        }

        private static long joined(int sign, long left, long right) {
            switch (sign) {
                case '|':
                    return left != 0 || right != 0 ? 1 : 0;
                case '&':
                    return left != 0 && right != 0 ? 1 : 0;
                case '<':
                    return left < right ? 1 : 0;
                case '>':
                    return left > right ? 1 : 0;
                case '=':
                    return left == right ? 1 : 0;
                case '+':
                    return left + right;
                case '-':
                    return left - right;
                case '*':
                    return left * right;
                case '/':
                    return right == 0 ? 0 : left / right;
                default:
                    return 0;
            }
        }

        private void push(long value) {
            if (height < TEXT) {
                stack[height] = value;
                height++;
            }
        }

        private long pop() {
            if (height == 0) {
                return 0;
            }
            height--;
            return stack[height];
        }
    }

    /** All that an image keeps. What is told of a giver and a work stands at 3 times the giver and the work. */
    private static final class Scene {
        final int[] coin = new int[GIVERS];
        final int[] bar = new int[WORKS];
        final int[] first = new int[GIVERS * WORKS];
        final int[] fall = new int[GIVERS * WORKS];
        final int[] gift = new int[GIVERS * WORKS];
        final Rule[] rules = new Rule[RULES];
        int givers = 0;
        int works = 0;
        int keep = 10;
        int theRule = 0;
        int purse = 40;
        int parted = 0;

        Scene() {
            for (int rule = 0; rule < RULES; rule++) {
                rules[rule] = new Rule();
            }
        }

        void take(Scene other) {
            takePeople(other);
            System.arraycopy(other.gift, 0, gift, 0, GIVERS * WORKS);
            for (int rule = 0; rule < RULES; rule++) {
                rules[rule].take(other.rules[rule]);
            }
            theRule = other.theRule;
            purse = other.purse;
            parted = other.parted;
        }

        /** All but the gifts, which are none then, and how these are added to. */
        void takePeople(Scene other) {
            System.arraycopy(other.coin, 0, coin, 0, GIVERS);
            System.arraycopy(other.bar, 0, bar, 0, WORKS);
            System.arraycopy(other.first, 0, first, 0, GIVERS * WORKS);
            System.arraycopy(other.fall, 0, fall, 0, GIVERS * WORKS);
            givers = other.givers;
            works = other.works;
            keep = other.keep;
            for (int place = 0; place < GIVERS * WORKS; place++) {
                gift[place] = 0;
            }
        }

        int givenBy(int giver) {
            int coins = 0;
            for (int work = 0; work < WORKS; work++) {
                coins += gift[giver * WORKS + work];
            }
            return coins;
        }

        int keptBy(int giver) {
            return coin[giver] - givenBy(giver);
        }

        int givenTo(int work) {
            int coins = 0;
            for (int giver = 0; giver < givers; giver++) {
                coins += gift[giver * WORKS + work];
            }
            return coins;
        }

        int givenInAll() {
            int coins = 0;
            for (int giver = 0; giver < givers; giver++) {
                coins += givenBy(giver);
            }
            return coins;
        }

        int coinInAll() {
            int coins = 0;
            for (int giver = 0; giver < givers; giver++) {
                coins += coin[giver];
            }
            return coins;
        }

        /** All gifts in one number, four bits each: like numbers tell like gifts. */
        long packedGifts() {
            long packed = 0;
            for (int place = 0; place < GIVERS * WORKS; place++) {
                packed = packed << 4 | gift[place];
            }
            return packed;
        }

        int worthOf(int giver, int work, int amount) {
            if (amount < bar[work]) {
                return 0;
            }
            int top = first[giver * WORKS + work];
            int step = fall[giver * WORKS + work];
            int coins = Math.min(amount, WORTH_COINS);
            if (step > 0) {
                // Coins from there on are worth nothing.
                coins = Math.min(coins, (top + step - 1) / step);
            }
            return coins * top - step * (coins * (coins - 1) / 2);
        }
    }

    /** What is given and added to each work; works that are not there yet have 0. */
    private static final class Ledger {
        final Sight sight;
        final int[] gifts = new int[WORKS];
        final int[] would = new int[WORKS];
        final int[] added = new int[WORKS];
        boolean lacks;

        Ledger(Sight sight) {
            this.sight = sight;
        }

        void fill(Scene scene) {
            for (int work = 0; work < WORKS; work++) {
                gifts[work] = 0;
                would[work] = 0;
            }
            for (int work = 0; work < scene.works; work++) {
                sight.seeAllBut(scene, work, NONE);
                gifts[work] = scene.givenTo(work);
                would[work] = sight.toldBy(scene.rules[scene.theRule]);
            }
            partPurse(scene);
        }

        void partPurse(Scene scene) {
            int all = 0;
            for (int work = 0; work < WORKS; work++) {
                all += would[work];
                added[work] = would[work];
            }
            lacks = all > scene.purse;
            if (!lacks) {
                return;
            }
            if (scene.parted == 0) {
                partByShare(scene.purse, all);
            } else if (scene.parted == 1) {
                partByNumber(scene.purse);
            } else {
                partByBound(scene.purse);
            }
        }

        private void partByShare(int purse, int all) {
            for (int work = 0; work < WORKS; work++) {
                added[work] = all > 0 ? would[work] * purse / all : 0;
            }
        }

        private void partByNumber(int purse) {
            int left = purse;
            for (int work = 0; work < WORKS; work++) {
                added[work] = Math.min(would[work], left);
                left -= added[work];
            }
        }

        private void partByBound(int purse) {
            int bound = 0;
            // Each pass but the last meets a work's whole wish, so these passes are enough.
            for (int pass = 0; pass <= WORKS; pass++) {
                int spare = purse;
                int open = 0;
                for (int work = 0; work < WORKS; work++) {
                    added[work] = Math.min(would[work], bound);
                    spare -= added[work];
                    open += would[work] > bound ? 1 : 0;
                }
                bound += open > 0 ? spare / open : 0;
            }
        }

        int haveOf(Scene scene, int giver, int kept) {
            int have = scene.keep * kept;
            for (int work = 0; work < WORKS; work++) {
                have += scene.worthOf(giver, work, gifts[work] + added[work]);
            }
            return have;
        }

        int allHave(Scene scene) {
            int have = 0;
            for (int giver = 0; giver < scene.givers; giver++) {
                have += haveOf(scene, giver, scene.keptBy(giver));
            }
            return have;
        }
    }

    /** Finds the row of gifts by which a giver has most, the others' gifts as they are. */
    private static final class Chooser {
        private final Ledger ledger;
        private final int[] wouldBy = new int[WORKS * (COIN_TOP + 1)];
        private final int[] others = new int[WORKS];
        final int[] row = new int[WORKS];
        int most;
        int before;

        Chooser(Ledger ledger) {
            this.ledger = ledger;
        }

        void choose(Scene scene, int giver) {
            ledger.fill(scene);
            before = ledger.haveOf(scene, giver, scene.keptBy(giver));
            foresee(scene, giver);
            most = -1;
            int coin = scene.coin[giver];
            int top0 = scene.works > 0 ? coin : 0;
            for (int a = 0; a <= top0; a++) {
                int top1 = scene.works > 1 ? coin - a : 0;
                for (int b = 0; b <= top1; b++) {
                    int top2 = scene.works > 2 ? coin - a - b : 0;
                    for (int c = 0; c <= top2; c++) {
                        weigh(scene, giver, a, b, c);
                    }
                }
            }
        }

        /** What the rule would add by each gift of his alone, so that no row has to ask it again. */
        private void foresee(Scene scene, int giver) {
            for (int work = 0; work < WORKS; work++) {
                others[work] = ledger.gifts[work] - scene.gift[giver * WORKS + work];
                wouldBy[work * (COIN_TOP + 1)] = 0;
            }
            Sight sight = ledger.sight;
            for (int work = 0; work < scene.works; work++) {
                for (int coins = 0; coins <= scene.coin[giver]; coins++) {
                    sight.seeAllBut(scene, work, giver);
                    sight.see(coins);
                    wouldBy[work * (COIN_TOP + 1) + coins] = sight.toldBy(scene.rules[scene.theRule]);
                }
            }
        }

        private void weigh(Scene scene, int giver, int a, int b, int c) {
            enter(0, a);
            enter(1, b);
            enter(2, c);
            ledger.partPurse(scene);
            int have = ledger.haveOf(scene, giver, scene.coin[giver] - a - b - c);
            if (have > most) {
                most = have;
                row[0] = a;
                row[1] = b;
                row[2] = c;
            }
        }

        private void enter(int work, int coins) {
            ledger.gifts[work] = others[work] + coins;
            ledger.would[work] = wouldBy[work * (COIN_TOP + 1) + coins];
        }
    }

    /** Giver by giver, round and round, until gifts rest, ring or are spent. */
    private static final class Rounds {
        private final Chooser chooser;
        private final long[] behind = new long[ROUNDS + 1];

        Rounds(Chooser chooser) {
            this.chooser = chooser;
        }

        int run(Scene scene) {
            int still = 0;
            behind[0] = scene.packedGifts();
            for (int round = 1; round <= ROUNDS; round++) {
                for (int giver = 0; giver < scene.givers; giver++) {
                    still++;
                    chooser.choose(scene, giver);
                    if (chooser.most > chooser.before) {
                        System.arraycopy(chooser.row, 0, scene.gift, giver * WORKS, WORKS);
                        still = 0;
                    }
                    if (still == scene.givers) {
                        return AT_REST;
                    }
                }
                behind[round] = scene.packedGifts();
                if (wasBefore(round)) {
                    return IN_RING;
                }
            }
            return SPENT;
        }

        private boolean wasBefore(int round) {
            for (int earlier = 0; earlier < round; earlier++) {
                if (behind[earlier] == behind[round]) {
                    return true;
                }
            }
            return false;
        }
    }

    /** What all could have together with all coin and the purse as one. */
    private static final class Common {
        private static final int COINS = GIVERS * COIN_TOP + PURSE_TOP;
        private static final int LEFTS = COINS + 1, AMOUNTS = WORTH_COINS + 1;

        private final int[] worths = new int[WORKS * AMOUNTS];
        private final int[] mostFrom = new int[(WORKS + 1) * LEFTS];
        final int[] row = new int[WORKS];
        int most;

        /** No amount above 60 is looked at: it is worth no more than 60, and its row comes later. */
        void find(Scene scene) {
            int coin = scene.coinInAll();
            int total = Math.min(COINS, coin + scene.purse);
            for (int left = 0; left <= total; left++) {
                mostFrom[WORKS * LEFTS + left] = scene.keep * Math.min(left, coin);
            }
            for (int work = WORKS - 1; work >= 0; work--) {
                fillWorths(scene, work);
                for (int left = Math.max(0, total - work * WORTH_COINS); left <= total; left++) {
                    mostFrom[work * LEFTS + left] = haveBy(work, left, firstBest(work, left));
                }
            }
            most = mostFrom[total];
            int left = total;
            for (int work = 0; work < WORKS; work++) {
                row[work] = firstBest(work, left);
                left -= row[work];
            }
        }

        private void fillWorths(Scene scene, int work) {
            for (int amount = 0; amount < AMOUNTS; amount++) {
                int sum = 0;
                for (int giver = 0; giver < scene.givers; giver++) {
                    sum += scene.worthOf(giver, work, amount);
                }
                worths[work * AMOUNTS + amount] = sum;
            }
        }

        /** The least amount of a work by which it and the works behind it are worth most, with so much left. */
        private int firstBest(int work, int left) {
            int found = 0;
            int greatest = haveBy(work, left, 0);
            int top = Math.min(WORTH_COINS, left);
            for (int amount = 1; amount <= top; amount++) {
                int have = haveBy(work, left, amount);
                if (have > greatest) {
                    greatest = have;
                    found = amount;
                }
            }
            return found;
        }

        private int haveBy(int work, int left, int amount) {
            return worths[work * AMOUNTS + amount] + mostFrom[(work + 1) * LEFTS + left - amount];
        }
    }

    /** A gift to one work given by up to four hands. */
    private static final class Partings {
        private final Ledger ledger;
        private final int[] mostBy = new int[HANDS + 1];
        private int plain;

        Partings(Ledger ledger) {
            this.ledger = ledger;
        }

        /** Finds for each number of hands how much more he has by it at most, 0 at least. */
        void weighAll(Scene scene, int giver, int work) {
            for (int hands = 0; hands <= HANDS; hands++) {
                mostBy[hands] = 0;
            }
            ledger.fill(scene);
            plain = ledger.haveOf(scene, giver, scene.keptBy(giver));
            int coins = scene.gift[giver * WORKS + work];
            for (int second = 1; second <= coins / 2; second++) {
                for (int third = 0; third <= second; third++) {
                    for (int fourth = 0; fourth <= third; fourth++) {
                        if (coins - second - third - fourth >= second) {
                            weigh(scene, giver, work, second, third, fourth);
                        }
                    }
                }
            }
        }

        private void weigh(Scene scene, int giver, int work, int second, int third, int fourth) {
            Sight sight = ledger.sight;
            sight.seeAllBut(scene, work, giver);
            sight.see(scene.gift[giver * WORKS + work] - second - third - fourth);
            sight.see(second);
            sight.see(third);
            sight.see(fourth);
            ledger.would[work] = sight.toldBy(scene.rules[scene.theRule]);
            ledger.partPurse(scene);
            int more = ledger.haveOf(scene, giver, scene.keptBy(giver)) - plain;
            int hands = fourth > 0 ? 4 : third > 0 ? 3 : 2;
            mostBy[hands] = Math.max(mostBy[hands], more);
        }

        int most() {
            int most = 0;
            for (int hands = 2; hands <= HANDS; hands++) {
                most = Math.max(most, mostBy[hands]);
            }
            return most;
        }

        /** The least cost of each hand beyond the first that eats up all that any parting brings. */
        int leastCost() {
            int cost = 0;
            for (int hands = 2; hands <= HANDS; hands++) {
                int beyond = hands - 1;
                cost = Math.max(cost, (mostBy[hands] + beyond - 1) / beyond);
            }
            return cost;
        }
    }

    /** Laws that a rule keeps or breaks, tried with two gifts a and b to one work. */
    private static final class Laws {
        private final Sight sight;

        Laws(Sight sight) {
            this.sight = sight;
        }

        boolean hold(Rule rule, int law, int top, int a, int b) {
            int adds = addedTo(rule, a, b, 0);
            switch (law) {
                case 0:
                    return a == top || 1 + addedTo(rule, a + 1, b, 0) >= adds;
                case 1:
                    return noneMoreByHands(rule, a, b, adds);
                case 2:
                    return adds <= a + b;
                default:
                    return a == 0 || b == 0 || adds > 0;
            }
        }

        private boolean noneMoreByHands(Rule rule, int a, int b, int adds) {
            for (int part = 1; part < a; part++) {
                if (addedTo(rule, part, b, a - part) > adds) {
                    return false;
                }
            }
            return true;
        }

        private int addedTo(Rule rule, int one, int two, int three) {
            sight.clear();
            sight.see(one);
            sight.see(two);
            sight.see(three);
            return sight.toldBy(rule);
        }
    }
}
