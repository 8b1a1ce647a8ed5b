import java.math.BigInteger;

/** Each promise of the document by itself: ordinary calls, the edges that it names, wrong numbers. Answers are worked by hand. */
public final class PromiseTest {
    private static final int[] WILD = {Integer.MIN_VALUE, -1000, -2, 1000, Integer.MAX_VALUE};
    private static int wrong = 0;
    private static int promise = 0;

    public static void main(String[] args) {
        newObject();
        givers();
        works();
        worths();
        sets();
        writes();
        erases();
        faults();
        gives();
        amounts();
        shortPurse();
        haves();
        bests();
        rests();
        turns();
        goods();
        losts();
        gains();
        hands();
        anyways();
        breaches();
        images();
        counts();
        digests();
        System.out.println(wrong == 0 ? "all promises are kept" : wrong + " answers are not as promised");
        if (wrong != 0) {
            System.exit(1);
        }
    }

    private static void due(String what, long got, long want) {
        if (got != want) {
            wrong++;
            System.out.println("promise " + promise + ": " + what + " answered " + got + ", due is " + want);
        }
    }

    private static void text(GiftMatch x, int rule, String text) {
        x.erase(rule);
        for (int i = 0; i < text.length(); i++) {
            x.write(rule, text.charAt(i));
        }
    }

    /** What a rule adds to gifts of these coins to one work. */
    private static int told(String text, int... coins) {
        GiftMatch x = new GiftMatch();
        x.work(0);
        x.set(2, 200);
        for (int g = 0; g < coins.length; g++) {
            x.giver(12);
            x.give(g, 0, coins[g]);
        }
        text(x, 0, text);
        return x.amount(0, 1);
    }

    private static int flaw(String text) {
        GiftMatch x = new GiftMatch();
        text(x, 1, text);
        return x.fault(1);
    }

    private static void newObject() {
        promise = 1;
        GiftMatch x = new GiftMatch();
        for (int what = 0; what < 4; what++) {
            due("count", x.count(what), 0);
        }
        due("KEEP at first", x.set(0, 0), 10);
        due("THE RULE at first", x.set(1, 0), 0);
        due("THE PURSE at first", x.set(2, 0), 40);
        due("PARTED at first", x.set(3, 0), 0);
        for (int rule = 0; rule < 3; rule++) {
            due("a rule at first", x.erase(rule), 0);
        }
        due("an image at first", x.from(0), GiftMatch.NO);
        due("an image at first", x.from(1), GiftMatch.NO);
        GiftMatch y = new GiftMatch();
        y.giver(5);
        due("another object", new GiftMatch().count(0), 0);
    }

    private static void givers() {
        promise = 2;
        GiftMatch x = new GiftMatch();
        due("giver(-1)", x.giver(-1), GiftMatch.BAD);
        due("giver(13)", x.giver(13), GiftMatch.BAD);
        for (int g = 0; g < 5; g++) {
            due("giver", x.giver(g * 3), g);
        }
        due("a sixth", x.giver(0), GiftMatch.FULL);
        due("a wrong sixth", x.giver(13), GiftMatch.BAD);
        due("all COIN", x.count(3), 30);
        for (int v : WILD) {
            due("giver(" + v + ")", x.giver(v), GiftMatch.BAD);
        }
    }

    private static void works() {
        promise = 3;
        GiftMatch x = new GiftMatch();
        due("work(-1)", x.work(-1), GiftMatch.BAD);
        due("work(61)", x.work(61), GiftMatch.BAD);
        due("work(0)", x.work(0), 0);
        due("work(60)", x.work(60), 1);
        due("work(3)", x.work(3), 2);
        due("a fourth", x.work(0), GiftMatch.FULL);
        due("a wrong fourth", x.work(61), GiftMatch.BAD);
        due("works", x.count(1), 3);
    }

    private static void worths() {
        promise = 4;
        GiftMatch x = new GiftMatch();
        due("nobody there", x.worth(0, 0, 1, 1), GiftMatch.BAD);
        x.giver(12);
        due("no work there", x.worth(0, 0, 1, 1), GiftMatch.BAD);
        x.work(5);
        due("worth", x.worth(0, 0, 200, 50), 1);
        due("giver 1", x.worth(1, 0, 1, 1), GiftMatch.BAD);
        due("giver -1", x.worth(-1, 0, 1, 1), GiftMatch.BAD);
        due("work 1", x.worth(0, 1, 1, 1), GiftMatch.BAD);
        due("work -1", x.worth(0, -1, 1, 1), GiftMatch.BAD);
        due("FIRST 201", x.worth(0, 0, 201, 1), GiftMatch.BAD);
        due("FIRST -1", x.worth(0, 0, -1, 1), GiftMatch.BAD);
        due("FALL 51", x.worth(0, 0, 1, 51), GiftMatch.BAD);
        due("FALL -1", x.worth(0, 0, 1, -1), GiftMatch.BAD);
        x.set(0, 0);
        x.give(0, 0, 4);
        due("below its BAR", x.has(0), 0);
        x.give(0, 0, 5);
        due("at its BAR, coins worth 0 at least", x.has(0), 200 + 150 + 100 + 50);
        x.worth(0, 0, 9, 0);
        due("no FALL", x.has(0), 45);
        x.worth(0, 0, 0, 50);
        due("no FIRST", x.has(0), 0);
        x.worth(0, 0, 1, 0);
        text(x, 0, "99");
        x.set(2, 200);
        due("coins 0 to 59", x.has(0), 60);
        due("AMOUNT", x.amount(0, 3), 104);
    }

    private static void sets() {
        promise = 5;
        GiftMatch x = new GiftMatch();
        int[] tops = {99, 2, 200, 2};
        int[] firsts = {10, 0, 40, 0};
        for (int what = 0; what < 4; what++) {
            due("below 0", x.set(what, -1), GiftMatch.BAD);
            due("above", x.set(what, tops[what] + 1), GiftMatch.BAD);
            due("at first", x.set(what, tops[what]), firsts[what]);
            due("what it was", x.set(what, 0), tops[what]);
            due("what it was", x.set(what, 1), 0);
            due("refused", x.set(what, tops[what] + 1), GiftMatch.BAD);
            due("unchanged", x.set(what, 1), 1);
        }
        due("set(-1, 0)", x.set(-1, 0), GiftMatch.BAD);
        due("set(4, 0)", x.set(4, 0), GiftMatch.BAD);
    }

    private static void writes() {
        promise = 6;
        GiftMatch x = new GiftMatch();
        due("rule -1", x.write(-1, 's'), GiftMatch.BAD);
        due("rule 3", x.write(3, 's'), GiftMatch.BAD);
        due("character -1", x.write(0, -1), GiftMatch.BAD);
        due("character 128", x.write(0, 128), GiftMatch.BAD);
        due("character 0", x.write(2, 0), 1);
        due("character 127", x.write(2, 127), 2);
        for (int i = 1; i <= 40; i++) {
            due("write", x.write(1, i < 40 ? '!' : 's'), i);
        }
        due("a 41st", x.write(1, 's'), GiftMatch.FULL);
        due("a wrong 41st", x.write(1, 128), GiftMatch.BAD);
        due("40 characters", x.fault(1), GiftMatch.NONE);
        due("how many", x.erase(1), 40);
    }

    private static void erases() {
        promise = 7;
        GiftMatch x = new GiftMatch();
        x.work(0);
        due("erase(-1)", x.erase(-1), GiftMatch.BAD);
        due("erase(3)", x.erase(3), GiftMatch.BAD);
        due("empty", x.erase(0), 0);
        text(x, 0, "7+1");
        text(x, 1, "2");
        due("adds", x.amount(0, 1), 8);
        due("erase", x.erase(0), 3);
        due("adds nothing", x.amount(0, 1), 0);
        due("again", x.erase(0), 0);
        due("another", x.erase(1), 1);
    }

    private static void faults() {
        promise = 8;
        GiftMatch x = new GiftMatch();
        due("fault(-1)", x.fault(-1), GiftMatch.BAD);
        due("fault(3)", x.fault(3), GiftMatch.BAD);
        due("empty", flaw(""), 1);
        due("blanks", flaw("   "), 31);
        String[] sound = {
            "s", "n", "m", "l", "r", "123456", " s ", "1|0&1", "1<2", "1 > 2", "1=2", "1<2&3<4|5=6", "(1<2)<3", "!!-s", "- -1",
            "1--1", "s*-n", "!(s)", "((s))*((n))", "000000", "1+2-3*4/5", "((((((((1))))))))", "(((1)))+(((((((1)))))))"
        };
        for (String text : sound) {
            due(text, flaw(text), GiftMatch.NONE);
        }
        String[] flawed = {"+", "s+", "s+ ", "s n", "1 2", "s1", "1s", "1(", "s!", "s~", "~s", "s)", "()", "(s", "1<2<3", "1=2>3",
            "(1<2<3)", "1<2+3<4", "s&", "|s", "S", "s\t", "1.5", "1234567", "s+0000000", "s1234567", "12345678x", "123456 7",
            "(((((((((", "((((((((s(", " ((((((((((", "s;"};
        int[] codes = {1, 21, 31, 21, 21, 11, 11, 11, 11, 11, 1, 11, 11, 21, 31, 31,
            41, 51, 21, 1, 1, 11, 11, 2, 22, 11, 2, 71,
            83, 91, 93, 11};
        for (int i = 0; i < flawed.length; i++) {
            due(flawed[i], flaw(flawed[i]), codes[i]);
        }
    }

    private static void gives() {
        promise = 9;
        GiftMatch x = new GiftMatch();
        due("nobody there", x.give(0, 0, 0), GiftMatch.BAD);
        x.giver(7);
        x.giver(0);
        due("no work there", x.give(0, 0, 0), GiftMatch.BAD);
        x.work(0);
        x.work(0);
        due("give", x.give(0, 0, 4), 0);
        due("more than COIN together", x.give(0, 1, 4), GiftMatch.BAD);
        due("all COIN", x.give(0, 1, 3), 0);
        due("again", x.give(0, 0, 4), 4);
        due("more than before", x.give(0, 0, 5), GiftMatch.BAD);
        due("less", x.give(0, 0, 1), 4);
        due("none", x.give(0, 0, 0), 1);
        due("coins -1", x.give(0, 0, -1), GiftMatch.BAD);
        due("without COIN", x.give(1, 0, 1), GiftMatch.BAD);
        due("nothing without COIN", x.give(1, 0, 0), 0);
        due("giver 2", x.give(2, 0, 0), GiftMatch.BAD);
        due("work 2", x.give(0, 2, 0), GiftMatch.BAD);
        for (int v : WILD) {
            due("wild coins", x.give(0, 0, v), GiftMatch.BAD);
            due("wild giver", x.give(v, 0, 0), GiftMatch.BAD);
            due("wild work", x.give(0, v, 0), GiftMatch.BAD);
        }
        due("given", x.count(2), 3);
    }

    private static void amounts() {
        promise = 10;
        due("s", told("s", 3, 0, 5), 8);
        due("n", told("n", 3, 0, 5), 2);
        due("m", told("m", 3, 0, 5), 5);
        due("l", told("l", 3, 0, 5), 3);
        due("l without any", told("l", 0, 0), 0);
        due("m without any", told("m"), 0);
        due("r of 4, 9", told("r", 4, 9), 25);
        due("r of 2, cut", told("r", 2), 1);
        due("r of 2, 2, cut", told("r", 2, 2), 7);
        due("r of 3, 12, cut", told("r", 3, 12), 26);
        due("r of none", told("r", 0), 0);
        due("* ahead of +", told("2+3*4"), 14);
        due("- from the left", told("9-3-2"), 4);
        due("/ from the left", told("40/2/2"), 10);
        due("* and / from the left", told("7/2*2"), 6);
        due("/ cut toward 0", told("9+-7/2"), 6);
        due("/ by 0", told("5+7/0"), 5);
        due("- UNIT ahead of *", told("-2*-3"), 6);
        due("! UNIT ahead of +", told("!0+5"), 6);
        due("! of what is not 0", told("!7+5"), 5);
        due("truths", told("(3<4)+(4>3)*2+(3=3)*4+(4<3)*8+(3>4)*16"), 7);
        due("equal is not less", told("(3<3)+(3>3)"), 0);
        due("& ahead of |", told("1|0&0"), 1);
        due("& of numbers", told("7&9"), 1);
        due("| of numbers", told("0|9"), 1);
        due("a number alone", told("42"), 42);
        due("< behind +", told("1+1<1+2"), 1);
        due("below 0", told("-5"), 0);
        due("above 99", told("100"), 99);
        due("longs wrap", told("999999*999999*999999*999999/1000"), 0);
        due("brackets", told("(2+3)*(4-(1+1))"), 10);
        due("blanks", told("  s *  2 ", 4), 8);
        due("40 characters", told("!".repeat(39) + "s"), 1);
        due("40 characters", told("-".repeat(38) + "7 "), 7);
        due("8 brackets", told("1+(1+(1+(1+(1+(1+(1+(1+(s*2))))))))", 4), 16);
        due("with a FAULT", told("7+", 4), 0);
        due("empty", told("", 4), 0);
        for (int coins = 0; coins <= 12; coins++) {
            rootsOfGiftsUpTo(coins);
        }
        GiftMatch x = new GiftMatch();
        due("no work there", x.amount(0, 0), GiftMatch.BAD);
        x.work(0);
        due("amount(-1, 0)", x.amount(-1, 0), GiftMatch.BAD);
        due("amount(1, 0)", x.amount(1, 0), GiftMatch.BAD);
        due("amount(0, -1)", x.amount(0, -1), GiftMatch.BAD);
        due("amount(0, 4)", x.amount(0, 4), GiftMatch.BAD);
        x.giver(12);
        x.work(0);
        x.work(0);
        x.give(0, 0, 1);
        x.give(0, 1, 4);
        x.give(0, 2, 7);
        text(x, 0, "s*5");
        int[][] added = {{3, 13, 23}, {5, 20, 15}, {5, 17, 17}};
        for (int parted = 0; parted < 3; parted++) {
            x.set(3, parted);
            for (int work = 0; work < 3; work++) {
                int gift = 1 + 3 * work;
                due("GIFTS", x.amount(work, 0), gift);
                due("would be added", x.amount(work, 1), 5 * gift);
                due("added, PARTED " + parted, x.amount(work, 2), added[parted][work]);
                due("AMOUNT", x.amount(work, 3), gift + added[parted][work]);
            }
        }
        x.set(1, 1);
        due("another RULE", x.amount(2, 1), 0);
    }

    /** Of all five gifts of which the first is the greatest: rules tell 99 at most, so three tell a third each. */
    private static void rootsOfGiftsUpTo(int top) {
        for (int b = 0; b <= top; b++) {
            for (int c = 0; c <= b; c++) {
                for (int d = 0; d <= c; d++) {
                    for (int e = 0; e <= d; e++) {
                        int[] gifts = {top, b, c, d, e};
                        int roots = told("r", gifts);
                        roots += roots == 99 ? told("r-99", gifts) : 0;
                        roots += roots == 198 ? told("r-198", gifts) : 0;
                        due("r of " + java.util.Arrays.toString(gifts), roots, Math.min(297, rootsSquared(gifts)));
                    }
                }
            }
        }
    }

    private static int rootsSquared(int[] gifts) {
        BigInteger one = BigInteger.TEN.pow(12);
        BigInteger sum = BigInteger.ZERO;
        for (int gift : gifts) {
            sum = sum.add(BigInteger.valueOf(gift).multiply(one).sqrt());
        }
        return sum.multiply(sum).divide(one).intValueExact();
    }

    private static void shortPurse() {
        promise = 11;
        GiftMatch x = new GiftMatch();
        due("no works", x.isShort(), 0);
        x.work(0);
        x.work(0);
        text(x, 0, "20");
        due("40 of 40", x.isShort(), 0);
        text(x, 0, "21");
        due("42 of 40", x.isShort(), 1);
        x.set(2, 42);
        due("42 of 42", x.isShort(), 0);
        x.set(2, 0);
        due("42 of none", x.isShort(), 1);
        due("nothing added", x.amount(0, 2), 0);
    }

    private static void haves() {
        promise = 12;
        GiftMatch x = new GiftMatch();
        due("ALL of nobody", x.has(GiftMatch.NONE), 0);
        due("has(0)", x.has(0), GiftMatch.BAD);
        x.giver(10);
        x.giver(4);
        due("all kept", x.has(0), 100);
        x.work(0);
        x.worth(0, 0, 10, 1);
        x.worth(1, 0, 7, 7);
        x.give(0, 0, 3);
        due("giver 0", x.has(0), 10 + 9 + 8 + 70);
        due("giver 1", x.has(1), 7 + 40);
        due("ALL", x.has(GiftMatch.NONE), 97 + 47);
        x.set(0, 0);
        due("KEEP 0", x.has(1), 7);
        due("has(2)", x.has(2), GiftMatch.BAD);
        due("has(-2)", x.has(-2), GiftMatch.BAD);
    }

    private static void bests() {
        promise = 13;
        GiftMatch x = new GiftMatch();
        due("nobody there", x.best(0, -1), -10);
        x.giver(6);
        due("no works", x.best(0, -1), 60);
        due("no works", x.best(0, 0), -10);
        x.work(0);
        x.work(0);
        x.worth(0, 0, 14, 2);
        due("two coins and a like third", x.best(0, 0), 2);
        due("what he has", x.best(0, -1), 14 + 12 + 40);
        x.worth(0, 1, 14, 2);
        x.set(0, 13);
        due("of like ones the first row", x.best(0, 0), 1);
        due("of like ones the first row", x.best(0, 1), 1);
        x.worth(0, 0, 14, 14);
        x.worth(0, 1, 14, 14);
        x.set(0, 14);
        due("none given of like ones", x.best(0, 0), 0);
        due("none given of like ones", x.best(0, 1), 0);
        x.set(0, 0);
        x.worth(0, 0, 5, 0);
        x.worth(0, 1, 5, 0);
        due("the last work first", x.best(0, 0), 0);
        due("the last work first", x.best(0, 1), 6);
        due("best(0, 2)", x.best(0, 2), -10);
        due("best(0, -2)", x.best(0, -2), -10);
        due("best(1, -1)", x.best(1, -1), -10);
        due("best(-1, -1)", x.best(-1, -1), -10);
        due("nothing given", x.count(2), 0);
    }

    private static void rests() {
        promise = 14;
        GiftMatch x = new GiftMatch();
        due("nobody there", x.rest(0), GiftMatch.NONE);
        due("rest(2)", x.rest(2), -10);
        due("rest(-1)", x.rest(-1), -10);
        x.giver(3);
        x.giver(3);
        x.work(0);
        x.worth(1, 0, 12, 1);
        due("who", x.rest(0), 1);
        due("by how much", x.rest(1), 3);
        x.give(1, 0, 2);
        due("at REST", x.rest(0), GiftMatch.NONE);
        due("at REST", x.rest(1), GiftMatch.NONE);
        x.give(1, 0, 3);
        due("a like one is no more", x.rest(0), GiftMatch.NONE);
        x.give(0, 0, 1);
        due("the first", x.rest(0), 0);
        due("by how much", x.rest(1), 10);
    }

    private static void turns() {
        promise = 15;
        GiftMatch x = new GiftMatch();
        due("nobody there", x.turns(), -5);
        x.giver(4);
        due("no works", x.turns(), 0);
        x.giver(4);
        x.work(0);
        x.worth(0, 0, 13, 1);
        x.worth(1, 0, 14, 1);
        due("turns", x.turns(), 0);
        due("giver 0 gives 3, giver 1 one more", x.count(2), 4);
        due("giver 0", x.give(0, 0, 0), 3);
        due("giver 1", x.give(1, 0, 0), 1);
        due("again, from giver 0", x.turns(), 0);
        due("at REST", x.rest(0), GiftMatch.NONE);
        rings();
    }

    private static void rings() {
        GiftMatch y = new GiftMatch();
        int[] coins = {4, 3, 3, 7, 6};
        int[][] worths = {{19, 2, 37, 2, 16, 1}, {24, 3, 22, 4, 3, 4}, {5, 3, 18, 4, 0, 4}, {37, 2, 13, 2, 38, 2},
            {19, 1, 12, 4, 39, 1}};
        for (int w = 0; w < 3; w++) {
            y.work(0);
        }
        for (int g = 0; g < 5; g++) {
            y.giver(coins[g]);
            for (int w = 0; w < 3; w++) {
                y.worth(g, w, worths[g][2 * w], worths[g][2 * w + 1]);
            }
        }
        text(y, 0, "(s=4)*9");
        y.set(2, 2);
        y.set(3, 2);
        y.set(0, 22);
        due("a RING", y.turns(), 1);
        due("a RING goes on", y.turns(), 1);
        due("no REST", y.rest(1) > 0 ? 1 : 0, 1);
    }

    private static void goods() {
        promise = 16;
        GiftMatch x = new GiftMatch();
        due("nobody there", x.good(GiftMatch.NONE), 0);
        due("no work there", x.good(0), -10);
        x.giver(2);
        x.set(2, 3);
        due("all kept, no more than all COIN", x.good(-1), 20);
        x.work(0);
        x.work(4);
        x.worth(0, 0, 8, 3);
        due("three coins of the purse, two kept", x.good(-1), 8 + 5 + 2 + 20);
        due("AMOUNT", x.good(0), 3);
        due("AMOUNT", x.good(1), 0);
        x.worth(0, 1, 50, 0);
        due("five above the BAR", x.good(-1), 250);
        due("AMOUNT", x.good(0), 0);
        due("AMOUNT", x.good(1), 5);
        x.worth(0, 0, 50, 0);
        due("the first row", x.good(0), 0);
        x.set(2, 200);
        x.worth(0, 0, 1, 0);
        x.worth(0, 1, 1, 0);
        due("60 coins at most", x.good(-1), 60 + 60 + 20);
        due("no more than 60", x.good(0), 60);
        GiftMatch y = new GiftMatch();
        y.set(0, 1);
        y.set(2, 200);
        for (int w = 0; w < 3; w++) {
            y.work(60);
        }
        for (int g = 0; g < 5; g++) {
            y.giver(12);
            for (int w = 0; w < 3; w++) {
                y.worth(g, w, 200, 0);
            }
        }
        due("all that there can be", y.good(-1), 5 * 3 * 60 * 200 + 60);
        due("all that there can be", y.good(2), 60);
        due("good(2)", x.good(2), -10);
        due("good(-2)", x.good(-2), -10);
    }

    private static void losts() {
        promise = 17;
        GiftMatch x = new GiftMatch();
        due("nobody there", x.lost(), 0);
        x.giver(5);
        x.giver(5);
        x.work(0);
        x.set(2, 0);
        x.worth(0, 0, 9, 0);
        x.worth(1, 0, 9, 0);
        due("nothing given", x.lost(), 180 - 100);
        x.give(0, 0, 5);
        due("half given", x.lost(), 180 - (90 + 50));
        x.give(1, 0, 5);
        due("all given", x.lost(), 0);
    }

    private static void gains() {
        promise = 18;
        GiftMatch x = new GiftMatch();
        due("nobody there", x.gain(0, 0), GiftMatch.BAD);
        x.giver(12);
        due("no work there", x.gain(0, 0), GiftMatch.BAD);
        x.work(0);
        x.worth(0, 0, 10, 0);
        text(x, 0, "n*3");
        due("nothing to part", x.gain(0, 0), 0);
        int[] gains = {0, 30, 60, 90, 90};
        for (int coins = 1; coins <= 5; coins++) {
            x.give(0, 0, coins);
            due("coins " + coins, x.gain(0, 0), gains[coins - 1]);
        }
        text(x, 0, "l*3");
        due("one hand is best", x.gain(0, 0), 0);
        text(x, 0, "(m=2)*l*9");
        due("2, 2, 1 or more", x.gain(0, 0), 90);
        text(x, 0, "n*20");
        due("the purse is too small", x.gain(0, 0), 200);
        due("gain(1, 0)", x.gain(1, 0), GiftMatch.BAD);
        due("gain(0, 1)", x.gain(0, 1), GiftMatch.BAD);
        due("gain(-1, 0)", x.gain(-1, 0), GiftMatch.BAD);
        due("gain(0, -1)", x.gain(0, -1), GiftMatch.BAD);
        due("gifts as before", x.count(2), 5);
    }

    private static void hands() {
        promise = 19;
        GiftMatch x = new GiftMatch();
        due("nobody there", x.hand(0, 0), GiftMatch.BAD);
        x.giver(12);
        x.work(0);
        x.worth(0, 0, 10, 0);
        x.give(0, 0, 6);
        text(x, 0, "n*3");
        due("30 by each hand", x.hand(0, 0), 30);
        text(x, 0, "(n=3)*7");
        due("70 by two hands more", x.hand(0, 0), 35);
        text(x, 0, "(n=4)*7");
        due("70 by three hands more, not cut", x.hand(0, 0), 24);
        text(x, 0, "n>9");
        due("not worth it", x.hand(0, 0), 0);
        x.worth(0, 0, 27, 0);
        text(x, 0, "(n=2)*37");
        due("999", x.hand(0, 0), 999);
        x.worth(0, 0, 200, 0);
        text(x, 0, "(n=2)*5");
        due("1000", x.hand(0, 0), GiftMatch.NONE);
        due("hand(1, 0)", x.hand(1, 0), GiftMatch.BAD);
        due("hand(0, 1)", x.hand(0, 1), GiftMatch.BAD);
        due("hand(-1, 0)", x.hand(-1, 0), GiftMatch.BAD);
        due("hand(0, -1)", x.hand(0, -1), GiftMatch.BAD);
    }

    private static void anyways() {
        promise = 20;
        GiftMatch x = new GiftMatch();
        due("nobody there", x.anyway(0), 0);
        x.giver(5);
        x.work(0);
        x.worth(0, 0, 12, 1);
        text(x, 0, "99*(s>2)");
        due("two coins", x.anyway(0), 2);
        due("none given yet", x.anyway(1), -2);
        x.give(0, 0, 5);
        due("from no gifts", x.anyway(0), 2);
        due("MOVED", x.anyway(1), 3);
        due("gifts as before", x.count(2), 5);
        due("the rule as before", x.amount(0, 1), 99);
        due("two coins again", x.anyway(0), 2);
        GiftMatch y = new GiftMatch();
        y.image(0);
        y.work(0);
        y.giver(2);
        y.worth(0, 0, 20, 0);
        due("giver 0 gives 2", y.anyway(0), 2);
        y.from(0);
        y.work(3);
        y.set(0, 0);
        for (int g = 0; g < 2; g++) {
            y.giver(2);
            y.worth(g, 0, 20, 0);
        }
        due("from no gifts at all, none reaches the BAR", y.anyway(0), 0);
        y.give(0, 0, 1);
        due("from no gifts at all, whatever is given", y.anyway(1), 1);
        due("anyway(2)", x.anyway(2), -1000);
        due("anyway(-1)", x.anyway(-1), -1000);
    }

    private static void breaches() {
        promise = 21;
        GiftMatch x = new GiftMatch();
        String[] texts = {"s", "5-s", "(s=3)*9", "n*2", "m", "99", "(n>1)", "s*(n=2)", "(s<7)*s"};
        int[][] due = {
            {-1, -1, -1, -1}, {-1, -1, 0, 104}, {3, -1, 3, 101}, {-1, 200, 1, -1}, {-1, -1, -1, -1},
            {-1, -1, 0, -1}, {-1, 200, -1, -1}, {-1, 200, -1, -1}, {6, -1, -1, 106}
        };
        for (int i = 0; i < texts.length; i++) {
            text(x, 2, texts[i]);
            for (int law = 0; law < 4; law++) {
                due(texts[i] + " law " + law, x.breach(2, law, 12), due[i][law]);
            }
        }
        text(x, 2, "(s=3)*9");
        due("a coin more is above top", x.breach(2, 0, 2), 102);
        due("a coin more is above top", x.breach(2, 0, 1), GiftMatch.NONE);
        x.erase(2);
        due("empty", x.breach(2, 3, 1), 101);
        due("empty", x.breach(2, 2, 12), GiftMatch.NONE);
        due("rule -1", x.breach(-1, 0, 1), GiftMatch.BAD);
        due("rule 3", x.breach(3, 0, 1), GiftMatch.BAD);
        due("law -1", x.breach(0, -1, 1), GiftMatch.BAD);
        due("law 4", x.breach(0, 4, 1), GiftMatch.BAD);
        due("top 0", x.breach(0, 0, 0), GiftMatch.BAD);
        due("top 13", x.breach(0, 0, 13), GiftMatch.BAD);
    }

    private static void images() {
        promise = 22;
        GiftMatch x = new GiftMatch();
        due("image(-1)", x.image(-1), GiftMatch.BAD);
        due("image(2)", x.image(2), GiftMatch.BAD);
        due("of a new object", x.image(1), 1);
        long fresh = x.digest();
        x.giver(6);
        x.work(2);
        x.worth(0, 0, 9, 2);
        x.give(0, 0, 5);
        text(x, 0, "s*3");
        text(x, 2, "x");
        x.set(0, 7);
        x.set(1, 2);
        x.set(2, 11);
        x.set(3, 1);
        due("image(0)", x.image(0), 1);
        long kept = x.digest();
        promise = 23;
        due("from(-1)", x.from(-1), GiftMatch.BAD);
        due("from(2)", x.from(2), GiftMatch.BAD);
        due("from(1)", x.from(1), 1);
        due("all as at first", x.digest(), fresh);
        due("no fault kept", x.fault(2), 1);
        x.giver(1);
        x.work(60);
        x.give(0, 0, 1);
        text(x, 0, "n");
        due("from(0)", x.from(0), 1);
        due("all as kept", x.digest(), kept);
        due("a fault kept", x.fault(2), 1);
        x.set(1, 0);
        due("a rule kept", x.amount(0, 1), 15);
        x.give(0, 0, 1);
        x.write(0, '1');
        due("from(0) again", x.from(0), 1);
        due("an image is not changed", x.digest(), kept);
        x.from(1);
        due("an image does not go back", x.from(0), 1);
        GiftMatch y = new GiftMatch();
        due("none was kept", y.from(0), GiftMatch.NO);
        y.image(0);
        due("none was kept", y.from(1), GiftMatch.NO);
        due("kept", y.from(0), 1);
    }

    private static void counts() {
        promise = 24;
        GiftMatch x = new GiftMatch();
        x.giver(4);
        x.giver(5);
        x.work(0);
        x.give(0, 0, 3);
        x.give(1, 0, 1);
        due("GIVERS", x.count(0), 2);
        due("WORKS", x.count(1), 1);
        due("coins given", x.count(2), 4);
        due("all COIN", x.count(3), 9);
        due("count(-1)", x.count(-1), GiftMatch.BAD);
        due("count(4)", x.count(4), GiftMatch.BAD);
    }

    private static long hashed(int... values) {
        long h = 461;
        for (int v : values) {
            h = 31 * h + v;
        }
        return h;
    }

    private static void digests() {
        promise = 25;
        GiftMatch x = new GiftMatch();
        due("of a new object", x.digest(), hashed(0, 0, 0, 0, 10, 0, 40, 0, 0, 0, 0, 0));
        x.giver(7);
        x.work(3);
        x.worth(0, 0, 20, 5);
        x.give(0, 0, 2);
        text(x, 1, "s+9");
        x.set(0, 3);
        x.set(1, 1);
        x.set(2, 8);
        x.set(3, 2);
        due("of all", x.digest(), hashed(1, 1, 2, 7, 7, 20, 5, 2, 0, 0, 0, 0, 0, 0, 3, 2, 11, 8, 10, 3, 1, 8, 2,
            0, 3, 's', '+', '9', 0, 20 + 15 + 10 + 5 + 15));
    }
}
