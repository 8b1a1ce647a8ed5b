import java.math.BigInteger;
import java.util.ArrayList;
import java.util.List;
import java.util.Random;

/**
 * Compares GiftMatch with a second reading of the document, written as plainly and slowly as it can be
 * (a text is worked out anew each time, every row is tried with everything counted again), over many
 * runs of calls from fixed seeds, wrong numbers among them.
 */
public final class ModelTest {
    private static final int RUNS = 400;
    private static final int CALLS = 250;
    private static int wrong = 0;
    private static final int[] turnsSeen = new int[3];
    private static final int[] lawsBroken = new int[4];
    private static final int[] flawsSeen = new int[4];
    private static int gainsSeen = 0;
    private static int handsWorthAnyCost = 0;
    private static int shortSeen = 0;

    public static void main(String[] args) {
        for (int run = 0; run < RUNS && wrong < 20; run++) {
            play(run);
        }
        for (int[][] scene : LONG_TURNS) {
            playLongTurns(scene);
        }
        demand(turnsSeen[0] > 0 && turnsSeen[1] > 10 && turnsSeen[2] > 3, "turns at rest, in a ring, spent");
        for (int law = 0; law < 4; law++) {
            demand(lawsBroken[law] > 0, "breaches of law " + law);
        }
        for (int kind = 1; kind < 4; kind++) {
            demand(flawsSeen[kind] > 0, "faults of kind " + kind);
        }
        demand(gainsSeen > 0 && shortSeen > 0 && handsWorthAnyCost > 0, "gains, short purses, hands worth any cost");
        System.out.println("seen: turns " + java.util.Arrays.toString(turnsSeen) + ", breaches "
            + java.util.Arrays.toString(lawsBroken) + ", faults " + java.util.Arrays.toString(flawsSeen) + ", gains "
            + gainsSeen + ", short " + shortSeen + ", hands worth any cost " + handsWorthAnyCost);
        System.out.println(wrong == 0 ? "all answers are as the model's" : wrong + " answers are not as the model's");
        if (wrong != 0) {
            System.exit(1);
        }
    }

    /** Scenes with turns of 40 rounds: BAR; COIN; FIRST and FALL of each giver in turn; text; PURSE, PARTED, KEEP; answer. */
    private static final int[][][] LONG_TURNS = {
        {{7, 1}, {5, 9, 9, 12, 12}, {56, 3, 37, 1, 42, 4, 44, 5, 24, 0, 60, 4, 26, 3, 76, 5, 45, 2, 37, 6},
            {'(', 's', ')'}, {7, 0, 25}, {2}},
        {{8, 15, 37}, {12, 9, 3, 10}, {17, 0, 59, 3, 56, 5, 42, 4, 38, 7, 9, 4, 10, 5, 67, 3, 75, 6, 79, 8, 8, 3, 13, 1},
            {'s'}, {10, 0, 33}, {2}},
        {{11, 12, 10}, {2, 12, 11, 4}, {78, 6, 73, 4, 18, 2, 78, 6, 68, 8, 14, 0, 68, 5, 32, 1, 59, 5, 10, 0, 1, 1, 2, 4},
            {'l', '/', '!', 'm'}, {77, 0, 11}, {2}},
        {{3, 10, 29}, {12, 12, 10, 10, 4}, {48, 9, 5, 3, 29, 4, 24, 3, 78, 3, 60, 1, 11, 4, 64, 2, 20, 8,
            22, 0, 16, 4, 55, 2, 77, 6, 6, 9, 69, 5}, {'-', '3', '+', 's'}, {11, 2, 37}, {2}},
        {{36, 2, 29}, {10, 12, 10, 10}, {22, 3, 7, 3, 8, 6, 73, 8, 35, 2, 12, 8, 16, 4, 72, 4, 50, 1, 52, 9, 41, 2, 45, 1},
            {'m', '*', 'l'}, {60, 1, 1}, {1}},
    };

    private static void playLongTurns(int[][] scene) {
        List<int[]> calls = new ArrayList<>();
        for (int bar : scene[0]) {
            calls.add(new int[] {1, bar});
        }
        for (int g = 0; g < scene[1].length; g++) {
            calls.add(new int[] {0, scene[1][g]});
            for (int w = 0; w < scene[0].length; w++) {
                int place = 2 * (g * scene[0].length + w);
                calls.add(new int[] {2, g, w, scene[2][place], scene[2][place + 1]});
            }
        }
        for (int character : scene[3]) {
            calls.add(new int[] {4, 0, character});
        }
        calls.add(new int[] {3, 2, scene[4][0]});
        calls.add(new int[] {3, 3, scene[4][1]});
        calls.add(new int[] {3, 0, scene[4][2]});
        calls.add(new int[] {13});
        calls.add(new int[] {23});
        GiftMatch real = new GiftMatch();
        Model model = new Model();
        for (int[] c : calls) {
            long got = call(real, c);
            long want = model.call(c);
            note(c, want);
            if (got != want || c[0] == 13 && got != scene[5][0]) {
                wrong++;
                System.out.println("long turns: " + java.util.Arrays.toString(c) + " answered " + got + ", the model " + want);
            }
        }
    }

    private static void demand(boolean seen, String what) {
        if (!seen) {
            wrong++;
            System.out.println("the runs never showed " + what);
        }
    }

    private static void play(int run) {
        Random random = new Random(7919L * run + 11);
        GiftMatch real = new GiftMatch();
        Model model = new Model();
        StringBuilder told = new StringBuilder();
        List<int[]> calls = new ArrayList<>();
        opening(random, calls);
        for (int i = 0; i < CALLS; i++) {
            if (calls.size() <= i) {
                next(random, calls, model);
            }
            int[] c = calls.get(i);
            long got = call(real, c);
            long want = model.call(c);
            told.append(' ').append(java.util.Arrays.toString(c));
            note(c, want);
            if (got != want) {
                wrong++;
                System.out.println("run " + run + " call " + i + " " + java.util.Arrays.toString(c) + " answered "
                    + got + ", the model " + want + " behind" + told);
                return;
            }
        }
    }

    private static void note(int[] c, long want) {
        if (c[0] == 13 && want >= 0) {
            turnsSeen[(int) want]++;
        } else if (c[0] == 19 && want >= 0) {
            lawsBroken[c[2]]++;
        } else if (c[0] == 6 && want > 0) {
            flawsSeen[(int) (want % 10)]++;
        } else if (c[0] == 16 && want > 0) {
            gainsSeen++;
        } else if (c[0] == 17 && want == -1) {
            handsWorthAnyCost++;
        } else if (c[0] == 9 && want == 1) {
            shortSeen++;
        }
    }

    private static long call(GiftMatch x, int[] c) {
        switch (c[0]) {
            case 0: return x.giver(c[1]);
            case 1: return x.work(c[1]);
            case 2: return x.worth(c[1], c[2], c[3], c[4]);
            case 3: return x.set(c[1], c[2]);
            case 4: return x.write(c[1], c[2]);
            case 5: return x.erase(c[1]);
            case 6: return x.fault(c[1]);
            case 7: return x.give(c[1], c[2], c[3]);
            case 8: return x.amount(c[1], c[2]);
            case 9: return x.isShort();
            case 10: return x.has(c[1]);
            case 11: return x.best(c[1], c[2]);
            case 12: return x.rest(c[1]);
            case 13: return x.turns();
            case 14: return x.good(c[1]);
            case 15: return x.lost();
            case 16: return x.gain(c[1], c[2]);
            case 17: return x.hand(c[1], c[2]);
            case 18: return x.anyway(c[1]);
            case 19: return x.breach(c[1], c[2], c[3]);
            case 20: return x.image(c[1]);
            case 21: return x.from(c[1]);
            case 22: return x.count(c[1]);
            default: return x.digest();
        }
    }

    private static void opening(Random random, List<int[]> calls) {
        int works = random.nextInt(4);
        int givers = random.nextInt(6);
        for (int w = 0; w < works; w++) {
            calls.add(new int[] {1, random.nextBoolean() ? 0 : random.nextInt(random.nextBoolean() ? 16 : 61)});
        }
        for (int g = 0; g < givers; g++) {
            calls.add(new int[] {0, random.nextInt(13)});
            for (int w = 0; w < works; w++) {
                calls.add(worthCall(random, g, w));
            }
        }
        for (int rule = 0; rule < 3; rule++) {
            addText(random, calls, rule);
        }
    }

    private static int[] worthCall(Random random, int g, int w) {
        boolean great = random.nextInt(3) == 0;
        return new int[] {2, g, w, random.nextInt(great ? 201 : 40), random.nextInt(great ? 51 : 6)};
    }

    /** Texts that tell something of most gifts. */
    private static final String[] SOUND = {
        "s", "r", "r-s", "n*4", "m+l", "s*2", "20-s*3", "n*n*5", "m - l + 1", "(n>1)*6", "(n=1)*9", "(s=4)*9", "(n=3)*50",
        "(n>2)*90", "!(s<6)*s*3", "s/2 + 5*(n>2)", "r*(n>1|s>7)", "-(-s)*(l=m)", "(s>3&n>1)*99", "7/(s-s)+l"
    };

    private static void addText(Random random, List<int[]> calls, int rule) {
        calls.add(new int[] {5, rule});
        String text = random.nextBoolean() ? SOUND[random.nextInt(SOUND.length)] : text(random, 3);
        if (random.nextInt(6) == 0) {
            text = spoilt(random, text);
        }
        for (int i = 0; i < text.length() && i < 41; i++) {
            calls.add(new int[] {4, rule, text.charAt(i)});
        }
        calls.add(new int[] {6, rule});
    }

    private static String text(Random random, int depth) {
        String[] units = {"s", "n", "m", "l", "r", "s", "n", "r-s", "n*3", "(n>1)*9", "s*2",
            "(n=1)*9", "(s=4)*9", "(n>2)*60"};
        String[] signs = {"|", "&", "<", ">", "=", "+", "-", "*", "/", " + ", "*", "+"};
        switch (depth == 0 ? 0 : random.nextInt(8)) {
            case 0:
            case 1: return units[random.nextInt(units.length)];
            case 2: return Integer.toString(random.nextInt(random.nextBoolean() ? 12 : 2000000));
            case 3: return "(" + text(random, depth - 1) + ")";
            case 4: return (random.nextBoolean() ? "!" : "- ") + text(random, depth - 1);
            default: return text(random, depth - 1) + signs[random.nextInt(signs.length)] + text(random, depth - 1);
        }
    }

    private static String spoilt(Random random, String text) {
        String noise = "0123456789snmlr()!-+*/<>=|& x~\t((((((((()))))))))";
        StringBuilder changed = new StringBuilder(text);
        int times = 1 + random.nextInt(3);
        for (int i = 0; i < times; i++) {
            int place = random.nextInt(changed.length() + 1);
            if (random.nextInt(3) == 0 && place < changed.length()) {
                changed.deleteCharAt(place);
            } else if (random.nextInt(5) == 0) {
                changed.insert(place, random.nextBoolean() ? "(((((((((" : "1234567");
            } else {
                changed.insert(place, noise.charAt(random.nextInt(noise.length())));
            }
        }
        return changed.toString();
    }

    private static int number(Random random, int top) {
        int[] wild = {-1, -2, top + 1, Integer.MAX_VALUE, Integer.MIN_VALUE, top + 2};
        return random.nextInt(12) == 0 ? wild[random.nextInt(wild.length)] : random.nextInt(top + 1);
    }

    private static void next(Random random, List<int[]> calls, Model model) {
        int g = Math.max(0, model.coin.size() - 1);
        int w = Math.max(0, model.bar.size() - 1);
        int kind = random.nextInt(36);
        switch (kind) {
            case 0: calls.add(new int[] {0, number(random, 12)}); break;
            case 1: calls.add(new int[] {1, number(random, 60)}); break;
            case 2: calls.add(new int[] {2, number(random, g), number(random, w), number(random, 200), number(random, 50)}); break;
            case 3:
            case 24: {
                int what = number(random, 3);
                int[] tops = {99, 2, 200, 2};
                int top = what >= 0 && what < 4 ? tops[what] : 3;
                calls.add(new int[] {3, what, random.nextBoolean() && what % 2 == 0 ? random.nextInt(30) : number(random, top)});
                break;
            }
            case 4: addText(random, calls, random.nextInt(3)); break;
            case 5: calls.add(new int[] {4, random.nextInt(4) == 0 ? number(random, 2) : 3, number(random, 127)}); break;
            case 6: calls.add(new int[] {6, number(random, 2)}); break;
            case 7:
            case 23:
            case 32:
            case 25:
            case 26:
            case 27: calls.add(new int[] {7, number(random, g), number(random, w), number(random, random.nextBoolean() ? 5 : 12)}); break;
            case 8: calls.add(new int[] {8, number(random, w), number(random, 3)}); break;
            case 10: calls.add(new int[] {10, number(random, g)}); break;
            case 11: calls.add(new int[] {11, number(random, g), random.nextInt(w + 2) - 1}); break;
            case 12: calls.add(new int[] {12, number(random, 1)}); break;
            case 14: calls.add(new int[] {14, random.nextInt(w + 3) - 1}); break;
            case 16:
            case 28: calls.add(new int[] {16, number(random, g), number(random, w)}); break;
            case 17:
            case 29: calls.add(new int[] {17, number(random, g), number(random, w)}); break;
            case 18: calls.add(new int[] {18, number(random, 1)}); break;
            case 19:
            case 30: calls.add(new int[] {19, number(random, 2), number(random, 3), number(random, 12)}); break;
            case 20: calls.add(new int[] {20, number(random, 1)}); break;
            case 21: calls.add(new int[] {21, number(random, 1)}); break;
            case 22: calls.add(new int[] {22, number(random, 3)}); break;
            case 31: calls.add(worthCall(random, random.nextInt(g + 1), random.nextInt(w + 1))); break;
            default: calls.add(new int[] {kind == 9 || kind == 13 || kind == 15 ? kind : kind >= 33 ? 13 : 23}); break;
        }
    }

    /** The document once more. */
    private static final class Model {
        List<Integer> coin = new ArrayList<>();
        List<Integer> bar = new ArrayList<>();
        int[][] first = new int[5][3];
        int[][] fall = new int[5][3];
        int[][] gift = new int[5][3];
        int keep = 10;
        int rule = 0;
        int purse = 40;
        int parted = 0;
        String[] texts = {"", "", ""};
        Model[] images = new Model[2];
        boolean addsNothing = false;

        Model copy() {
            Model m = new Model();
            m.coin = new ArrayList<>(coin);
            m.bar = new ArrayList<>(bar);
            for (int g = 0; g < 5; g++) {
                m.first[g] = first[g].clone();
                m.fall[g] = fall[g].clone();
                m.gift[g] = gift[g].clone();
            }
            m.keep = keep;
            m.rule = rule;
            m.purse = purse;
            m.parted = parted;
            m.texts = texts.clone();
            return m;
        }

        boolean in(int v, int low, int high) {
            return low <= v && v <= high;
        }

        boolean isGiver(int g) {
            return in(g, 0, coin.size() - 1);
        }

        boolean isWork(int w) {
            return in(w, 0, bar.size() - 1);
        }

        long call(int[] c) {
            switch (c[0]) {
                case 0:
                    if (!in(c[1], 0, 12)) return -2;
                    if (coin.size() == 5) return -4;
                    coin.add(c[1]);
                    return coin.size() - 1;
                case 1:
                    if (!in(c[1], 0, 60)) return -2;
                    if (bar.size() == 3) return -4;
                    bar.add(c[1]);
                    return bar.size() - 1;
                case 2:
                    if (!isGiver(c[1]) || !isWork(c[2]) || !in(c[3], 0, 200) || !in(c[4], 0, 50)) return -2;
                    first[c[1]][c[2]] = c[3];
                    fall[c[1]][c[2]] = c[4];
                    return 1;
                case 3: return set(c[1], c[2]);
                case 4:
                    if (!in(c[1], 0, 2) || !in(c[2], 0, 127)) return -2;
                    if (texts[c[1]].length() == 40) return -4;
                    texts[c[1]] += (char) c[2];
                    return texts[c[1]].length();
                case 5: {
                    if (!in(c[1], 0, 2)) return -2;
                    int n = texts[c[1]].length();
                    texts[c[1]] = "";
                    return n;
                }
                case 6: return in(c[1], 0, 2) ? Text.fault(texts[c[1]]) : -2;
                case 7: {
                    if (!isGiver(c[1]) || !isWork(c[2]) || c[3] < 0 || c[3] > 12) return -2;
                    int was = gift[c[1]][c[2]];
                    gift[c[1]][c[2]] = c[3];
                    if (given(c[1]) > coin.get(c[1])) {
                        gift[c[1]][c[2]] = was;
                        return -2;
                    }
                    return was;
                }
                case 8: return isWork(c[1]) && in(c[2], 0, 3) ? amount(c[1], c[2]) : -2;
                case 9: return isShort() ? 1 : 0;
                case 10: return c[1] == -1 ? all() : isGiver(c[1]) ? has(c[1]) : -2;
                case 11: {
                    if (!isGiver(c[1]) || c[2] != -1 && !isWork(c[2])) return -10;
                    int[] b = best(c[1]);
                    return c[2] == -1 ? b[3] : b[c[2]];
                }
                case 12:
                    if (!in(c[1], 0, 1)) return -10;
                    for (int g = 0; g < coin.size(); g++) {
                        int more = best(g)[3] - has(g);
                        if (more > 0) return c[1] == 0 ? g : more;
                    }
                    return -1;
                case 13: return coin.isEmpty() ? -5 : turns();
                case 14: return c[1] == -1 ? good()[3] : isWork(c[1]) ? good()[c[1]] : -10;
                case 15: return good()[3] - all();
                case 16: return isGiver(c[1]) && isWork(c[2]) ? gain(c[1], c[2], 0) : -2;
                case 17:
                    if (!isGiver(c[1]) || !isWork(c[2])) return -2;
                    for (int cost = 0; cost <= 999; cost++) {
                        if (gain(c[1], c[2], cost) == 0) return cost;
                    }
                    return -1;
                case 18: return in(c[1], 0, 1) ? anyway(c[1]) : -1000;
                case 19:
                    if (!in(c[1], 0, 2) || !in(c[2], 0, 3) || !in(c[3], 1, 12)) return -2;
                    return breach(texts[c[1]], c[2], c[3]);
                case 20:
                    if (!in(c[1], 0, 1)) return -2;
                    images[c[1]] = copy();
                    return 1;
                case 21: return from(c[1]);
                case 22: return in(c[1], 0, 3) ? count(c[1]) : -2;
                default: return digest();
            }
        }

        long set(int what, int v) {
            int was;
            switch (what) {
                case 0:
                    if (!in(v, 0, 99)) return -2;
                    was = keep;
                    keep = v;
                    return was;
                case 1:
                    if (!in(v, 0, 2)) return -2;
                    was = rule;
                    rule = v;
                    return was;
                case 2:
                    if (!in(v, 0, 200)) return -2;
                    was = purse;
                    purse = v;
                    return was;
                case 3:
                    if (!in(v, 0, 2)) return -2;
                    was = parted;
                    parted = v;
                    return was;
                default:
                    return -2;
            }
        }

        long from(int i) {
            if (!in(i, 0, 1)) return -2;
            if (images[i] == null) return -3;
            Model m = images[i].copy();
            coin = m.coin;
            bar = m.bar;
            first = m.first;
            fall = m.fall;
            gift = m.gift;
            keep = m.keep;
            rule = m.rule;
            purse = m.purse;
            parted = m.parted;
            texts = m.texts;
            return 1;
        }

        int given(int g) {
            return gift[g][0] + gift[g][1] + gift[g][2];
        }

        int count(int what) {
            int sum = 0;
            switch (what) {
                case 0: return coin.size();
                case 1: return bar.size();
                case 2:
                    for (int g = 0; g < 5; g++) sum += given(g);
                    return sum;
                default:
                    for (int c : coin) sum += c;
                    return sum;
            }
        }

        List<Integer> gifts(int w) {
            List<Integer> list = new ArrayList<>();
            for (int g = 0; g < coin.size(); g++) list.add(gift[g][w]);
            return list;
        }

        int[] wishes() {
            int[] wish = new int[bar.size()];
            for (int w = 0; w < wish.length; w++) wish[w] = addsNothing ? 0 : Text.value(texts[rule], gifts(w));
            return wish;
        }

        static int sum(int[] row) {
            int sum = 0;
            for (int v : row) sum += v;
            return sum;
        }

        boolean isShort() {
            return sum(wishes()) > purse;
        }

        int[] added(int[] wish) {
            int all = sum(wish);
            if (all <= purse) return wish;
            int[] row = new int[wish.length];
            if (parted == 0) {
                for (int w = 0; w < row.length; w++) row[w] = wish[w] * purse / all;
            } else if (parted == 1) {
                int left = purse;
                for (int coins = 0; coins < purse; coins++) {
                    for (int w = 0; w < row.length; w++) {
                        if (row[w] < wish[w] && left > 0) {
                            row[w]++;
                            left--;
                            break;
                        }
                    }
                }
            } else {
                for (int bound = 0; bound <= 99; bound++) {
                    int[] tried = new int[wish.length];
                    for (int w = 0; w < row.length; w++) tried[w] = Math.min(wish[w], bound);
                    if (sum(tried) <= purse) row = tried;
                }
            }
            return row;
        }

        int amount(int w, int what) {
            int gifts = 0;
            for (int v : gifts(w)) gifts += v;
            int[] wish = wishes();
            switch (what) {
                case 0: return gifts;
                case 1: return wish[w];
                case 2: return added(wish)[w];
                default: return gifts + added(wish)[w];
            }
        }

        int worth(int g, int w, int amount) {
            if (amount < bar.get(w)) return 0;
            int sum = 0;
            for (int u = 0; u < amount && u <= 59; u++) sum += Math.max(0, first[g][w] - fall[g][w] * u);
            return sum;
        }

        int has(int g) {
            return has(g, added(wishes()));
        }

        int has(int g, int[] added) {
            int sum = keep * (coin.get(g) - given(g));
            for (int w = 0; w < bar.size(); w++) {
                int amount = added[w];
                for (int v : gifts(w)) amount += v;
                sum += worth(g, w, amount);
            }
            return sum;
        }

        int all() {
            int sum = 0;
            for (int g = 0; g < coin.size(); g++) sum += has(g);
            return sum;
        }

        int[] best(int g) {
            int[] was = gift[g];
            int[] found = {0, 0, 0, -1};
            for (int i = 0; i < 13 * 13 * 13; i++) {
                int[] row = {i / 169, i / 13 % 13, i % 13};
                boolean stands = sum(row) <= coin.get(g);
                for (int w = bar.size(); w < 3; w++) stands &= row[w] == 0;
                if (!stands) continue;
                gift[g] = row;
                int has = has(g);
                if (has > found[3]) found = new int[] {row[0], row[1], row[2], has};
            }
            gift[g] = was;
            return found;
        }

        String giftText() {
            return java.util.Arrays.deepToString(gift);
        }

        int turns() {
            List<String> behind = new ArrayList<>();
            behind.add(giftText());
            int unchanged = 0;
            for (int round = 1; round <= 40; round++) {
                for (int g = 0; g < coin.size(); g++) {
                    int[] b = best(g);
                    if (b[3] > has(g)) {
                        gift[g] = new int[] {b[0], b[1], b[2]};
                        unchanged = 0;
                    } else {
                        unchanged++;
                    }
                    if (unchanged == coin.size()) return 0;
                }
                if (behind.contains(giftText())) return 1;
                behind.add(giftText());
            }
            return 2;
        }

        int[] good() {
            int all = count(3);
            int total = all + purse;
            int[][] value = new int[3][total + 1];
            for (int w = 0; w < bar.size(); w++) {
                for (int a = 0; a <= total; a++) {
                    for (int g = 0; g < coin.size(); g++) value[w][a] += worth(g, w, a);
                }
            }
            int[] found = {0, 0, 0, -1};
            for (int a = 0; a <= (bar.size() > 0 ? total : 0); a++) {
                for (int b = 0; b <= (bar.size() > 1 ? total - a : 0); b++) {
                    for (int c = 0; c <= (bar.size() > 2 ? total - a - b : 0); c++) {
                        int have = value[0][a] + value[1][b] + value[2][c] + keep * Math.min(all, total - a - b - c);
                        if (have > found[3]) found = new int[] {a, b, c, have};
                    }
                }
            }
            return found;
        }

        int gain(int g, int w, int cost) {
            int now = has(g);
            int most = now;
            for (List<Integer> hands : partings(gift[g][w], 4)) {
                List<Integer> seen = gifts(w);
                seen.remove(g);
                seen.addAll(hands);
                int[] wish = wishes();
                wish[w] = Text.value(texts[rule], seen);
                most = Math.max(most, has(g, added(wish)) - cost * Math.max(0, hands.size() - 1));
            }
            return most - now;
        }

        static List<List<Integer>> partings(int coins, int hands) {
            List<List<Integer>> all = new ArrayList<>();
            if (coins == 0) {
                all.add(new ArrayList<>());
            }
            for (int one = 1; one <= coins && hands > 0; one++) {
                for (List<Integer> others : partings(coins - one, hands - 1)) {
                    others.add(one);
                    all.add(others);
                }
            }
            return all;
        }

        int anyway(int what) {
            Model m = copy();
            m.gift = new int[5][3];
            m.addsNothing = true;
            if (!coin.isEmpty()) m.turns();
            return what == 0 ? m.count(2) : count(2) - m.count(2);
        }

        static boolean lawHolds(String text, int law, int top, int a, int b) {
            int adds = Text.value(text, List.of(a, b));
            switch (law) {
                case 0: return a + 1 > top || a + 1 + b + Text.value(text, List.of(a + 1, b)) >= a + b + adds;
                case 1:
                    for (int h = 1; h <= a - 1; h++) {
                        if (Text.value(text, List.of(h, a - h, b)) > adds) return false;
                    }
                    return true;
                case 2: return adds <= a + b;
                default: return !(a > 0 && b > 0) || adds > 0;
            }
        }

        static int breach(String text, int law, int top) {
            for (int a = 0; a <= top; a++) {
                for (int b = 0; b <= top; b++) {
                    if (!lawHolds(text, law, top, a, b)) return 100 * a + b;
                }
            }
            return -1;
        }

        long digest() {
            List<Integer> values = new ArrayList<>();
            for (int what = 0; what <= 3; what++) values.add(count(what));
            for (int g = 0; g < coin.size(); g++) {
                values.add(coin.get(g));
                for (int w = 0; w < 3; w++) {
                    values.add(first[g][w]);
                    values.add(fall[g][w]);
                    values.add(gift[g][w]);
                }
            }
            for (int w = 0; w < bar.size(); w++) {
                values.add(bar.get(w));
                for (int what = 0; what <= 3; what++) values.add(amount(w, what));
            }
            values.addAll(List.of(keep, rule, purse, parted));
            for (String text : texts) {
                values.add(text.length());
                for (char c : text.toCharArray()) values.add((int) c);
            }
            values.add(all());
            long h = 461;
            for (int v : values) h = 31 * h + v;
            return h;
        }
    }

    /** A rule's text, read and worked by descent from VALUE to UNIT. */
    private static final class Text {
        private static final class Flaw extends Exception {
            private static final long serialVersionUID = 1L;
            final int code;

            Flaw(int place, int kind) {
                code = 10 * place + kind;
            }
        }

        private final String text;
        private final List<Integer> gifts;
        private int place = 0;
        private int open = 0;

        private Text(String text, List<Integer> gifts) {
            this.text = text;
            this.gifts = gifts;
        }

        private long whole() throws Flaw {
            long v = value();
            if (place < text.length()) throw new Flaw(place, 1);
            return v;
        }

        static int fault(String text) {
            try {
                new Text(text, List.of()).whole();
                return -1;
            } catch (Flaw flaw) {
                return flaw.code;
            }
        }

        static int value(String text, List<Integer> gifts) {
            try {
                return (int) Math.min(99, Math.max(0, new Text(text, gifts).whole()));
            } catch (Flaw flaw) {
                return 0;
            }
        }

        private char peek() {
            while (place < text.length() && text.charAt(place) == ' ') place++;
            return place < text.length() ? text.charAt(place) : 0xffff;
        }

        private long value() throws Flaw {
            long v = both();
            while (peek() == '|') {
                place++;
                long w = both();
                v = v != 0 || w != 0 ? 1 : 0;
            }
            return v;
        }

        private long both() throws Flaw {
            long v = held();
            while (peek() == '&') {
                place++;
                long w = held();
                v = v != 0 && w != 0 ? 1 : 0;
            }
            return v;
        }

        private long held() throws Flaw {
            long v = sum();
            char c = peek();
            if (c != '<' && c != '>' && c != '=') return v;
            place++;
            long w = sum();
            return (c == '<' ? v < w : c == '>' ? v > w : v == w) ? 1 : 0;
        }

        private long sum() throws Flaw {
            long v = term();
            for (char c = peek(); c == '+' || c == '-'; c = peek()) {
                place++;
                long w = term();
                v = c == '+' ? v + w : v - w;
            }
            return v;
        }

        private long term() throws Flaw {
            long v = unit();
            for (char c = peek(); c == '*' || c == '/'; c = peek()) {
                place++;
                long w = unit();
                v = c == '*' ? v * w : w == 0 ? 0 : v / w;
            }
            return v;
        }

        private long unit() throws Flaw {
            char c = peek();
            int at = place++;
            if (c >= '0' && c <= '9') {
                while (place < text.length() && text.charAt(place) >= '0' && text.charAt(place) <= '9') place++;
                if (place - at > 6) throw new Flaw(at, 2);
                return Long.parseLong(text.substring(at, place));
            }
            if ("snmlr".indexOf(c) >= 0) return seen(c);
            if (c == '!') return unit() == 0 ? 1 : 0;
            if (c == '-') return -unit();
            if (c != '(') throw new Flaw(at, 1);
            if (open == 8) throw new Flaw(at, 3);
            open++;
            long v = value();
            if (peek() != ')') throw new Flaw(place, 1);
            place++;
            open--;
            return v;
        }

        private long seen(char c) {
            long sum = 0;
            long heads = 0;
            long most = 0;
            long least = 0;
            BigInteger roots = BigInteger.ZERO;
            BigInteger squareOfOne = BigInteger.TEN.pow(12);
            for (int v : gifts) {
                sum += v;
                heads += v > 0 ? 1 : 0;
                most = Math.max(most, v);
                if (v > 0) least = least == 0 ? v : Math.min(least, v);
                roots = roots.add(BigInteger.valueOf(v).multiply(squareOfOne).sqrt());
            }
            return c == 's' ? sum : c == 'n' ? heads : c == 'm' ? most : c == 'l' ? least
                : roots.multiply(roots).divide(squareOfOne).longValue();
        }
    }
}
