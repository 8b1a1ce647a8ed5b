import java.io.IOException;
import java.nio.file.Files;
import java.nio.file.Path;
import java.util.Arrays;

/**
 * The document from its first word to its last: each test names the words that it holds the class to, and tries
 * what stands just within and just without them. Words of the document that no test names are told at the end.
 */
public final class BoundaryTest {
    private static final Path DOCUMENT = Path.of("../shared/DOC.md");
    private static final int NONE = GiftMatch.NONE, BAD = GiftMatch.BAD, NO = GiftMatch.NO, FULL = GiftMatch.FULL;
    private static final int BAD_CHOICE = -10, BAD_ANYWAY = -1000;
    private static final int MIN = Integer.MIN_VALUE, MAX = Integer.MAX_VALUE;

    private static boolean hasDocument;
    private static String document;
    private static boolean[] isNamed;
    private static String words = "";
    private static int section = 0;
    private static int wrong = 0;

    public static void main(String[] args) throws IOException {
        hasDocument = Files.isReadable(DOCUMENT);
        document = hasDocument ? Files.readString(DOCUMENT).replaceAll("\\s+", " ") : "";
        isNamed = new boolean[document.length()];
        terms();
        promisesOfScenes();
        promisesOfGifts();
        promisesOfHands();
        promisesOfImages();
        if (hasDocument) {
            wordsWithoutTest();
        } else {
            System.out.println("the answers alone were tried: there is no " + DOCUMENT);
        }
        System.out.println(wrong == 0 ? "all words are kept" : wrong + " answers are not as the document's words");
        if (wrong != 0) {
            System.exit(1);
        }
    }

    // ---- what is held to what

    /** Promise 0 stands for the terms. */
    private static int startOf(int promise) {
        return document.indexOf(promise == 0 ? "## Terms" : "## Promise " + promise + ":");
    }

    private static int endOf(int promise) {
        return document.indexOf("## ", startOf(promise) + 3);
    }

    private static void promise(int number) {
        section = number;
    }

    /** The next answers are held to these words of the terms or of the promise. */
    private static void says(String quoted) {
        words = quoted;
        if (!hasDocument) {
            return;
        }
        int at = document.indexOf(quoted, startOf(section));
        if (at < 0 || at + quoted.length() > endOf(section)) {
            wrong++;
            System.out.println("promise " + section + " does not say: " + quoted);
            return;
        }
        Arrays.fill(isNamed, at, at + quoted.length(), true);
    }

    private static void due(String what, long got, long want) {
        if (got != want) {
            wrong++;
            System.out.println("\"" + words + "\": " + what + " answered " + got + ", due is " + want);
        }
    }

    private static void wordsWithoutTest() {
        for (int promise = 0; promise <= 25; promise++) {
            int start = promise == 0 ? startOf(0) + "## Terms".length() : document.indexOf("`: ", startOf(promise)) + 1;
            int end = promise == 0 ? document.indexOf("Ahead of the calls") : endOf(promise);
            String left = unnamed(start, end);
            if (!left.isEmpty()) {
                wrong++;
                System.out.println("promise " + promise + ": no test names " + left);
            }
        }
    }

    private static String unnamed(int start, int end) {
        StringBuilder left = new StringBuilder();
        for (int i = start; i < end; i++) {
            left.append(isNamed[i] ? ' ' : document.charAt(i));
        }
        return left.toString().replaceAll("```(text)?|=======+ [0-9]|[:;,.]", " ").strip().replaceAll("\\s+", " ");
    }

    // ---- scenes

    private static void write(GiftMatch x, int rule, String text) {
        due("how many characters are in a text at most", Math.max(40, text.length()), 40);
        x.erase(rule);
        for (int i = 0; i < text.length(); i++) {
            x.write(rule, text.charAt(i));
        }
    }

    private static GiftMatch scene(int givers, int coin, int works, int bar) {
        GiftMatch x = new GiftMatch();
        for (int g = 0; g < givers; g++) {
            x.giver(coin);
        }
        for (int w = 0; w < works; w++) {
            x.work(bar);
        }
        return x;
    }

    private static void give(GiftMatch x, int giver, int... row) {
        for (int w = 0; w < row.length; w++) {
            x.give(giver, w, 0);
        }
        for (int w = 0; w < row.length; w++) {
            x.give(giver, w, row[w]);
        }
    }

    /** What a rule would add to a work that is given these coins. */
    private static int adds(String text, int... coins) {
        GiftMatch x = scene(coins.length, 12, 1, 0);
        for (int g = 0; g < coins.length; g++) {
            x.give(g, 0, coins[g]);
        }
        write(x, 0, text);
        return x.amount(0, 1);
    }

    private static int flaw(String text) {
        GiftMatch x = new GiftMatch();
        write(x, 2, text);
        return x.fault(2);
    }

    /** What a work is worth to a giver by an amount of 0 to 99 that is all added. */
    private static int worth(int bar, int first, int fall, int amount) {
        GiftMatch x = scene(1, 0, 1, bar);
        x.worth(0, 0, first, fall);
        x.set(2, 200);
        write(x, 0, Integer.toString(amount));
        return x.has(0);
    }

    private static void addedDue(GiftMatch x, int purse, int... added) {
        x.set(2, purse);
        for (int w = 0; w < added.length; w++) {
            due("work " + w + " by a purse of " + purse, x.amount(w, 2), added[w]);
        }
    }

    /** Three works that would have so much added, 0 to 12 each. */
    private static GiftMatch wishing(int parted, int a, int b, int c) {
        GiftMatch x = scene(3, 12, 3, 0);
        x.give(0, 0, a);
        x.give(1, 1, b);
        x.give(2, 2, c);
        write(x, 0, "s");
        x.set(3, parted);
        return x;
    }

    private static int[] giftsOf(GiftMatch x, int givers, int works) {
        int[] row = new int[givers * works];
        for (int g = 0; g < givers; g++) {
            for (int w = 0; w < works; w++) {
                row[g * works + w] = x.give(g, w, 0);
                x.give(g, w, row[g * works + w]);
            }
        }
        return row;
    }

    private static void giftsDue(GiftMatch x, int givers, int works, int... want) {
        int[] got = giftsOf(x, givers, works);
        due("GIFTS " + Arrays.toString(got) + " are as due " + Arrays.toString(want), Arrays.equals(got, want) ? 1 : 0, 1);
    }

    // ---- Terms

    private static void terms() {
        promise(0);
        giversAndWorks();
        worthByAmount();
        keepAndGifts();
        textsAtMost();
        grammar();
        units();
        truthsAndLongs();
        blanks();
        faultPlaces();
        everyCharacter();
        seventhDigit();
        ninthBracket();
        roots();
        broughtToBounds();
        purseIsShort();
        partedByShare();
        partedByNumber();
        partedByBound();
        amountIsWhole();
        hasAndAll();
        bestOfAll();
        restOrFirst();
        turnsToRest();
        turnsInRing();
        turnsSpent();
        goodOfAll();
        goodIsLost();
        handsOfOne();
        gainOfHands();
        worthTheCost();
        anywayGiven();
        lawsOfTwo();
        lawOfMore();
        lawOfHands();
        lawOfBoth();
        lawOfSomething();
        firstBreach();
        imagesOfAll();
        refusedCalls();
    }

    private static void giversAndWorks() {
        says("4, as they come, have COIN (0 .. 12).");
        GiftMatch x = new GiftMatch();
        int[] coins = {0, 12, 1, 11, 6};
        for (int g = 0; g < 5; g++) {
            due("below COIN", x.giver(-1), BAD);
            due("above COIN", x.giver(13), BAD);
            due("as they come", x.giver(coins[g]), g);
            due("all COIN", x.count(3), new int[] {0, 12, 13, 24, 30}[g]);
        }
        says("WORKS 0 .. 2, as they come, have a BAR (0 .. 60).");
        int[] bars = {0, 60, 1};
        for (int w = 0; w < 3; w++) {
            due("below BAR", x.work(-1), BAD);
            due("above BAR", x.work(61), BAD);
            due("as they come", x.work(bars[w]), w);
        }
    }

    private static void worthByAmount() {
        says("A WORK is WORTH to a GIVER, by its AMOUNT: 0 below its BAR;");
        int[] bars = {1, 7, 59, 60};
        for (int bar : bars) {
            due("one below BAR " + bar, worth(bar, 3, 0, bar - 1), 0);
            due("at BAR " + bar, worth(bar, 3, 0, bar), 3 * bar);
        }
        due("BAR 0, nothing there", worth(0, 200, 0, 0), 0);
        due("BAR 0, a coin", worth(0, 200, 0, 1), 200);
        GiftMatch x = scene(1, 3, 1, 6);
        x.set(0, 0);
        x.worth(0, 0, 5, 0);
        x.give(0, 0, 3);
        due("GIFTS alone", x.has(0), 0);
        write(x, 0, "2");
        due("GIFTS and what is added, one below", x.has(0), 0);
        write(x, 0, "3");
        due("GIFTS and what is added", x.has(0), 30);
        says("else of its coins u from 0 on, 59 at last,");
        int[] amounts = {0, 1, 58, 59, 60, 61, 99};
        int[] flat = {0, 1, 58, 59, 60, 60, 60};
        for (int i = 0; i < amounts.length; i++) {
            due("amount " + amounts[i], worth(0, 1, 0, amounts[i]), flat[i]);
            due("amount " + amounts[i], worth(0, 200, 0, amounts[i]), 200 * flat[i]);
        }
        due("the first coin has no FALL", worth(0, 9, 5, 1), 9);
        due("the last of 60 coins", worth(0, 60, 1, 60) - worth(0, 60, 1, 59), 1);
        due("none behind it", worth(0, 61, 1, 61) - worth(0, 61, 1, 60), 0);
        says("each FIRST less FALL u, 0 at least");
        int[] steep = {0, 200, 350, 450, 500, 500, 500};
        int[] uneven = {0, 7, 11, 12, 12, 12, 12};
        int[] once = {0, 50, 50, 50, 50, 50, 50};
        int[] below = {0, 49, 49, 49, 49, 49, 49};
        for (int amount = 0; amount < steep.length; amount++) {
            due("200 less 50", worth(0, 200, 50, amount), steep[amount]);
            due("7 less 3", worth(0, 7, 3, amount), uneven[amount]);
            due("50 less 50", worth(0, 50, 50, amount), once[amount]);
            due("49 less 50", worth(0, 49, 50, amount), below[amount]);
            due("0 less 50", worth(0, 0, 50, amount), 0);
        }
        due("3 less 1, 60 coins", worth(0, 3, 1, 60), 6);
        due("58 less 1, 60 coins", worth(0, 58, 1, 60), 58 * 59 / 2);
        due("200 less 3, 60 coins", worth(0, 200, 3, 60), 60 * 200 - 3 * 59 * 60 / 2);
        says("(told for each GIVER and WORK: FIRST 0 .. 200, FALL 0 .. 50; 0 at first).");
        worthIsToldForEach();
    }

    private static void worthIsToldForEach() {
        GiftMatch x = scene(2, 1, 2, 0);
        x.set(0, 0);
        x.give(0, 0, 1);
        x.give(1, 1, 1);
        due("0 at first", x.has(NONE), 0);
        int[] firsts = {-1, 201};
        int[] falls = {-1, 51};
        for (int i = 0; i < 2; i++) {
            due("FIRST " + firsts[i], x.worth(0, 0, firsts[i], 0), BAD);
            due("FALL " + falls[i], x.worth(0, 0, 0, falls[i]), BAD);
        }
        due("still 0", x.has(NONE), 0);
        due("FIRST 200, FALL 50", x.worth(0, 0, 200, 50), 1);
        due("for giver 0", x.has(0), 200);
        due("not for giver 1", x.has(1), 0);
        due("FIRST 0, FALL 0", x.worth(0, 0, 0, 0), 1);
        due("work 1 for giver 1", x.worth(1, 1, 3, 0), 1);
        due("not for giver 0", x.has(0), 0);
        due("for giver 1", x.has(1), 3);
    }

    private static void keepAndGifts() {
        says("KEEP (0 .. 99; 10 at first): what a coin is worth that is kept.");
        GiftMatch x = scene(1, 12, 1, 0);
        due("at first", x.has(0), 120);
        due("below", x.set(0, -1), BAD);
        due("above", x.set(0, 100), BAD);
        due("as it was", x.has(0), 120);
        due("the greatest", x.set(0, 99), 10);
        due("the greatest", x.has(0), 12 * 99);
        due("the least", x.set(0, 0), 99);
        due("the least", x.has(0), 0);
        says("GIFTS: of each GIVER to each WORK whole coins, together no more than his COIN (none at first).");
        GiftMatch y = scene(2, 7, 3, 0);
        due("none at first", y.count(2), 0);
        giftsDue(y, 2, 3, 0, 0, 0, 0, 0, 0);
        due("all to one", y.give(0, 2, 7), 0);
        due("one more to one", y.give(0, 2, 8), BAD);
        due("one more to another", y.give(0, 0, 1), BAD);
        due("less", y.give(0, 2, 5), 7);
        due("all together", y.give(0, 0, 2), 0);
        due("one more together", y.give(0, 1, 1), BAD);
        due("one more in its place", y.give(0, 0, 3), BAD);
        due("the other's own COIN", y.give(1, 1, 7), 0);
        giftsDue(y, 2, 3, 2, 0, 5, 0, 7, 0);
    }

    private static void textsAtMost() {
        says("RULES 0 .. 2 are texts of 40 characters at most: what is added to a WORK:");
        GiftMatch x = scene(0, 0, 1, 0);
        for (int rule = 0; rule < 3; rule++) {
            for (int i = 1; i <= 40; i++) {
                due("character " + i, x.write(rule, i <= 38 ? ' ' : '7' + rule), i);
            }
            due("a 41st", x.write(rule, '9'), FULL);
            x.set(1, rule);
            due("40 characters tell", x.amount(0, 1), 11 * (7 + rule));
        }
        due("rule -1", x.write(-1, '1'), BAD);
        due("rule 3", x.write(3, '1'), BAD);
        due("39 times -", adds("-".repeat(39) + "s", 5), 0);
        due("38 times -", adds("-".repeat(38) + "s ", 5), 5);
        due("39 times !", adds("!".repeat(39) + "s"), 1);
        due("20 numbers", adds("1+".repeat(19) + "1 "), 20);
        due("brackets and signs", adds("1+(2*(1+(2*(1+(2*(1+(2*(1+1)))))))) "), 47);
    }

    private static void flawsDue(Object... textsAndFlaws) {
        for (int i = 0; i + 1 < textsAndFlaws.length; i += 2) {
            String text = (String) textsAndFlaws[i];
            due("the FAULT of '" + text + "'", flaw(text), (Integer) textsAndFlaws[i + 1]);
        }
    }

    private static void grammar() {
        says("VALUE: BOTHS with | between;");
        due("either", adds("0|0") + 2 * adds("0|3") + 4 * adds("3|0") + 8 * adds("0|0|1"), 14);
        flawsDue("|", 1, "|1", 1, "1|", 21, "1||1", 21, "1|1", NONE, "1|&1", 21);
        says("BOTH: HELDS with & between;");
        due("both", adds("0&0") + 2 * adds("0&3") + 4 * adds("3&5") + 8 * adds("1&1&0"), 4);
        due("& ahead of |", adds("1|0&0") + 2 * adds("0&0|1") + 4 * adds("1&0|0&1"), 3);
        flawsDue("&", 1, "&1", 1, "1&", 21, "1&&1", 21, "1&1", NONE, "1&|1", 21);
        says("HELD: SUM, or SUM < SUM, SUM > SUM, SUM = SUM;");
        due("less", adds("2<3") + 2 * adds("3<3") + 4 * adds("4<3"), 1);
        due("more", adds("2>3") + 2 * adds("3>3") + 4 * adds("4>3"), 4);
        due("like", adds("2=3") + 2 * adds("3=3") + 4 * adds("4=3"), 2);
        due("SUMs ahead", adds("1+1<3-0") + 2 * adds("2*3=6") + 4 * adds("0<1&2>1"), 7);
        due("a SUM alone is as it is", adds("42"), 42);
        flawsDue("<1", 1, "1<", 21, "1<2<3", 31, "1<2>3", 31, "1=2=3", 31, "1>=2", 21, "1==2", 21, "1<2+3<4", 51,
            "(1<2)<3", NONE, "1<(2<3)", NONE, "1<2&2<3", NONE, "1<2|2<3", NONE, "(1<2<3)", 41, "1<!2<3", 41, "1<2&3<4<5", 71);
        says("SUM: TERMS with + or -;");
        due("from the left", adds("20-9-4"), 7);
        due("TERMS ahead", adds("20-2*3+4/2"), 16);
        flawsDue("+1", 1, "1+", 21, "1++1", 21, "1+-1", NONE, "1--1", NONE, "1-+1", 21);
        says("TERM: UNITS with * or /;");
        due("from the left", adds("7/2*2"), 6);
        due("from the left", adds("40/4/2"), 5);
        flawsDue("*1", 1, "/1", 1, "1*", 21, "1**1", 21, "1*/1", 21, "1*-1", NONE, "1/!1", NONE);
    }

    private static void units() {
        says("UNIT: digits (1 .. 6),");
        due("one digit", adds("7"), 7);
        due("six digits", adds("999999-999901"), 98);
        due("zeros ahead", adds("000012"), 12);
        says("s all GIFTS to it together,");
        due("together", adds("s", 3, 0, 5), 8);
        due("all that there can be", adds("s", 12, 12, 12, 12, 12), 60);
        says("n how many GIFTS above 0,");
        due("above 0", adds("n", 3, 0, 5, 0), 2);
        due("a gift of 1", adds("n", 1), 1);
        due("all five", adds("n", 1, 1, 1, 1, 1), 5);
        says("m the greatest one,");
        due("the greatest", adds("m", 3, 9, 5), 9);
        says("l the least above 0 (0 without any),");
        due("the least", adds("l", 3, 9, 2), 2);
        due("not 0", adds("l", 0, 9, 4, 0), 4);
        due("without any", adds("l", 0, 0), 0);
        due("without givers", adds("l"), 0);
        due("s, n, m, r without any", adds("s+n*2+m*4+r*8", 0, 0), 0);
        says("r ROOTS,");
        due("4 and 9", adds("r", 4, 9), 25);
        says("( VALUE ), ! UNIT, - UNIT;");
        due("brackets ahead of all", adds("(0|2)+(1&0)+(1<2)*3"), 4);
        due("! of one UNIT", adds("!0*7"), 7);
        due("- of one UNIT", adds("9+-2*3"), 3);
        due("one before the other", adds("!-5+!!5*2+-!0*-4"), 6);
        flawsDue("()", 11, "(", 11, "(1", 21, "(1+", 31, ")", 1, "1)", 11, "(1))", 31, "(1)(1)", 31, "!", 11, "-", 11, "1!", 11,
            "1!1", 11, "!)", 11, "s s", 21, "ss", 11, "1s", 11, "s1", 11, "(1)1", 31, "(1|2)", NONE);
        GiftMatch x = scene(2, 12, 2, 0);
        x.give(0, 0, 3);
        x.give(0, 1, 8);
        x.give(1, 1, 2);
        says("s all GIFTS to it together,");
        write(x, 0, "s*4+n");
        due("to it alone", x.amount(0, 1), 13);
        due("to it alone", x.amount(1, 1), 42);
    }

    private static void truthsAndLongs() {
        says("truths 1, 0 (not 0 is a truth),");
        due("truths are 1", adds("(3|0)*7+(2&3)*7+!0*7+(1<2)*7"), 28);
        due("what is not 0", adds("!5+!-1*2+(-1&-7)*4+(0|-1)*8"), 12);
        due("0", adds("!0+(0|0)*2+(0&1)*4"), 1);
        says("all is worked,");
        due("a truth on the left", adds("1|7/0"), 1);
        due("none on the left", adds("0&7/0"), 0);
        flawsDue("1|(", 31, "0&", 21);
        says("longs wrap,");
        String least = "65536*65536*65536*32768";
        due("2 to the 63rd is the least long", adds(least + "<0"), 1);
        due("2 to the 64th is 0", adds("65536*65536*65536*65536=0"), 1);
        due("the least less 1 is the greatest", adds(least + "-1>0"), 1);
        due("the greatest and 1 is the least", adds(least + "-1+1<0"), 1);
        due("- of the least", adds("-(" + least + ")<0"), 1);
        due("the least by -1", adds(least + "/-1<0"), 1);
        due("the least is less than 1", adds(least + "<1"), 1);
        due("2 to the 32nd does not wrap", adds("65536*65536+5>5"), 1);
        due("2 to the 31st does not wrap", adds("65536*32768>0"), 1);
        due("2 to the 64th and 7 times 2 to the 48th", adds("65536*65536*65536*65543/65536/65536/9999"), 7 * 65536 / 9999);
        due("2 to the 64th less 2 to the 48th", adds("-65536*65536*65536*65535/65536/65536/999"), 65536 / 999);
        says("/ cut toward 0,");
        due("-7 by 2", adds("9+-7/2"), 6);
        due("7 by -2", adds("9+7/-2"), 6);
        due("-7 by -2", adds("-7/-2"), 3);
        due("-1 by 2", adds("9+-1/2"), 9);
        due("7 by 2", adds("7/2"), 3);
        says("by 0 is 0;");
        due("5 by 0", adds("5/0"), 0);
        due("0 by 0", adds("0/0"), 0);
        due("5 by 0 and on", adds("5/0*3+4"), 4);
        due("by what is 0", adds("9+8/(s-s)/n", 4), 9);
    }

    private static void blanks() {
        says("blanks anywhere but within digits.");
        due("anywhere", adds("  ( s  + 12 ) * ! - 0 ", 3), 15);
        flawsDue(" s", NONE, "s ", NONE, "( s )", NONE, "! s", NONE, "- - s", NONE, "1 < 2", NONE, "  12  ", NONE);
        flawsDue("1 2", 21, "12 3", 31, "1  2", 31, "s n", 21, " ", 11, "   ", 31, "1 + ", 41);
        flawsDue("123456 7", 71, "1 234567", 21);
        due("no value within digits", adds("1 2"), 0);
        due("40 blanks", flaw(" ".repeat(40)), 401);
        due("39 blanks", flaw(" ".repeat(39) + "1"), NONE);
    }

    private static void faultPlaces() {
        says("FAULT: 10 times the place of the first character that can not stand there (its length: too early) and 1;");
        flawsDue("x", 1, "sx", 11, "s+x", 21, "s+xy)", 21, "x1234567", 1, "s+)", 21, "s)+x", 11, "S", 1, "1.5", 11, "s\t", 11);
        flawsDue("s+", 21, "(s", 21, "!", 11, "s<", 21, "((((((((", 81, "s+ ", 31);
        due("the 40th", flaw("!".repeat(39) + "x"), 391);
        due("the 40th too early", flaw("!".repeat(40)), 401);
        due("the 40th stands", flaw("-".repeat(39) + "s"), NONE);
        GiftMatch x = new GiftMatch();
        x.write(1, 's');
        due("sound", x.fault(1), NONE);
        x.write(1, '+');
        due("too early", x.fault(1), 21);
        x.write(1, 'n');
        due("sound again", x.fault(1), NONE);
        x.write(1, '~');
        due("a character that can not stand", x.fault(1), 31);
        x.write(1, '~');
        due("the first one", x.fault(1), 31);
        due("another rule's", x.fault(0), 1);
    }

    /** Each character at the start, behind a UNIT, and behind a UNIT in brackets. */
    private static void everyCharacter() {
        says("the first character that can not stand there");
        for (int c = 0; c < 128; c++) {
            String told = "character " + c;
            boolean isUnit = c >= '0' && c <= '9' || "snmlr".indexOf(c) >= 0;
            boolean isSign = "|&<>=+-*/".indexOf(c) >= 0;
            boolean isAhead = "(!- ".indexOf(c) >= 0;
            due(told + " alone", flaw("" + (char) c), isUnit ? NONE : isAhead ? 11 : 1);
            due(told + " behind s", flaw("s" + (char) c), c == ' ' ? NONE : isSign ? 21 : 11);
            due(told + " behind (s", flaw("(s" + (char) c), c == ')' ? NONE : isSign || c == ' ' ? 31 : 21);
            due(told + " behind s+", flaw("s+" + (char) c), isUnit ? NONE : isAhead ? 31 : 21);
            due(told + " behind 1", flaw("1" + (char) c), c == ' ' || c >= '0' && c <= '9' ? NONE : isSign ? 21 : 11);
        }
    }

    private static void seventhDigit() {
        says("2: a seventh digit (at the first);");
        flawsDue("123456", NONE, "1234567", 2, "12345678", 2, "0000000", 2, "s+1234567", 22, "  1234567", 22, "(1234567", 12,
            "1234567x", 2, "1234567+1234567", 2, "123456+1234567", 72, "123456*123456", NONE, "s1234567", 11, "x+1234567", 1);
        due("40 digits", flaw("1".repeat(40)), 2);
        due("at the end", flaw("-".repeat(33) + "1234567"), 332);
        due("it tells 0", adds("0000007"), 0);
    }

    private static void ninthBracket() {
        says("3: the 9th ( open.");
        flawsDue("((((((((1))))))))", NONE, "(((((((((", 83, "((((((((((", 83, "((((((((!(", 93, "((((((((1+(", 103,
            " ( ((((((((", 103, "((((((((1(", 91, "((((((((1)+(1", 131, "((((((((1)+((", 123, "((((((((1)+(1)))))))))", 211);
        due("nine, one behind the other", flaw("(1)+(1)+(1)+(1)+(1)+(1)+(1)+(1)+(1)"), NONE);
        due("eight open again", flaw("((((((((1))))))))+((((((((1))))))))"), NONE);
        due("it tells 0", adds("(((((((((1)))))))))"), 0);
        due("eight tell", adds("((((((((1))))))))"), 1);
    }

    private static void roots() {
        says("ROOTS: of each GIFT the greatest whole number of 1000000ths that squared is no more than it;");
        int[] alone = {0, 1, 1, 2, 4, 4, 5, 6, 7, 9, 9, 10, 11};
        for (int coins = 0; coins <= 12; coins++) {
            due("of " + coins, adds("r", coins), alone[coins]);
        }
        due("of five times 12", adds("r-201", 12, 12, 12, 12, 12), 98);
        says("all these together, squared, whole ones of that.");
        due("2 and 2", adds("r", 2, 2), 7);
        due("2 and 8", adds("r", 2, 8), 17);
        due("3 and 12", adds("r", 3, 12), 26);
        due("1, 4, 9", adds("r", 1, 4, 9), 36);
        due("1 and 2", adds("r", 1, 2), 5);
        due("five times 1", adds("r", 1, 1, 1, 1, 1), 25);
        due("none", adds("r", 0, 0), 0);
    }

    private static void broughtToBounds() {
        says("What a text tells is brought to 0 .. 99;");
        int[] values = {98, 99, 100, 101, 999999};
        int[] told = {98, 99, 99, 99, 99};
        for (int i = 0; i < values.length; i++) {
            due("" + values[i], adds("" + values[i]), told[i]);
            due("-" + values[i], adds("-" + values[i]), 0);
        }
        due("-1", adds("-1"), 0);
        due("0", adds("0"), 0);
        due("1", adds("1"), 1);
        due("the least long", adds("65536*65536*65536*32768"), 0);
        due("the greatest long", adds("65536*65536*65536*32768-1"), 99);
        due("2 to the 32nd and 5", adds("65536*65536+5"), 99);
        due("2 to the 31st", adds("65536*32768"), 99);
        says("with a FAULT (empty: too) 0.");
        String[] flawed = {"", " ", "9+", "9 9", "9)", "(9", "9x", "1234567", "x", "9<10<11"};
        for (String text : flawed) {
            due("'" + text + "'", adds(text, 5), 0);
        }
        says("THE RULE is one of them (0 at first).");
        GiftMatch x = scene(0, 0, 1, 0);
        for (int rule = 0; rule < 3; rule++) {
            write(x, rule, "" + (rule + 5));
        }
        due("at first", x.amount(0, 1), 5);
        due("-1", x.set(1, -1), BAD);
        due("3", x.set(1, 3), BAD);
        due("as it was", x.amount(0, 1), 5);
        due("the last", x.set(1, 2), 0);
        due("the last", x.amount(0, 1), 7);
    }

    private static void purseIsShort() {
        says("THE PURSE (0 .. 200; 40 at first).");
        GiftMatch x = scene(0, 0, 1, 0);
        write(x, 0, "99");
        due("at first", x.amount(0, 2), 40);
        due("-1", x.set(2, -1), BAD);
        due("201", x.set(2, 201), BAD);
        due("as it was", x.amount(0, 2), 40);
        due("0", x.set(2, 0), 40);
        due("nothing to add", x.amount(0, 2), 0);
        due("200", x.set(2, 200), 0);
        x.work(0);
        x.work(0);
        due("200 of 297", x.amount(0, 2), 66);
        says("If what is to be added to all WORKS together is more than THE PURSE, it is SHORT, and PARTED:");
        for (int parted = 0; parted < 3; parted++) {
            GiftMatch y = wishing(parted, 3, 4, 5);
            y.set(2, 12);
            due("as much as THE PURSE", y.isShort(), 0);
            addedDue(y, 12, 3, 4, 5);
            addedDue(y, 13, 3, 4, 5);
            y.set(2, 11);
            due("one more than THE PURSE", y.isShort(), 1);
            due("what would be added", y.amount(2, 1), 5);
            addedDue(y, 0, 0, 0, 0);
        }
        due("below", x.set(3, -1), BAD);
        due("above", x.set(3, 3), BAD);
        GiftMatch z = scene(0, 0, 0, 0);
        write(z, 0, "20");
        for (int works = 0; works <= 3; works++) {
            due(works + " works", z.isShort(), works == 3 ? 1 : 0);
            z.work(0);
        }
    }

    private static void partedByShare() {
        says("0 (at first): each by its own times THE PURSE over all, cut;");
        GiftMatch x = wishing(0, 1, 4, 7);
        due("at first", new GiftMatch().set(3, 0), 0);
        addedDue(x, 11, 0, 3, 6);
        addedDue(x, 6, 0, 2, 3);
        addedDue(x, 1, 0, 0, 0);
        addedDue(x, 2, 0, 0, 1);
        GiftMatch y = wishing(0, 5, 5, 5);
        addedDue(y, 14, 4, 4, 4);
        addedDue(y, 2, 0, 0, 0);
        addedDue(y, 3, 1, 1, 1);
        GiftMatch z = wishing(0, 0, 9, 0);
        addedDue(z, 8, 0, 8, 0);
    }

    private static void partedByNumber() {
        says("1 to the WORKS by their numbers as long as it lasts;");
        GiftMatch x = wishing(1, 5, 6, 7);
        addedDue(x, 17, 5, 6, 6);
        addedDue(x, 12, 5, 6, 1);
        addedDue(x, 11, 5, 6, 0);
        addedDue(x, 10, 5, 5, 0);
        addedDue(x, 5, 5, 0, 0);
        addedDue(x, 4, 4, 0, 0);
        addedDue(x, 1, 1, 0, 0);
    }

    private static void partedByBound() {
        says("2 each up to a like bound, the greatest whole one that it bears.");
        GiftMatch x = wishing(2, 5, 5, 5);
        addedDue(x, 14, 4, 4, 4);
        addedDue(x, 3, 1, 1, 1);
        addedDue(x, 2, 0, 0, 0);
        GiftMatch y = wishing(2, 9, 1, 9);
        addedDue(y, 18, 8, 1, 8);
        addedDue(y, 17, 8, 1, 8);
        addedDue(y, 16, 7, 1, 7);
        addedDue(y, 3, 1, 1, 1);
        addedDue(y, 4, 1, 1, 1);
        addedDue(y, 5, 2, 1, 2);
        GiftMatch z = wishing(2, 9, 2, 5);
        addedDue(z, 15, 8, 2, 5);
        addedDue(z, 12, 5, 2, 5);
        addedDue(z, 11, 4, 2, 4);
        addedDue(z, 13, 6, 2, 5);
        GiftMatch alone = wishing(2, 0, 0, 12);
        addedDue(alone, 11, 0, 0, 11);
        GiftMatch two = wishing(2, 12, 0, 12);
        addedDue(two, 23, 11, 0, 11);
    }

    private static void amountIsWhole() {
        says("AMOUNT: GIFTS and what is added, all in whole coins.");
        GiftMatch x = scene(1, 12, 2, 0);
        due("nothing at all", x.amount(0, 3), 0);
        x.give(0, 0, 5);
        due("GIFTS alone", x.amount(0, 3), 5);
        write(x, 0, "30");
        due("what is added, not what would be", x.amount(0, 3), 25);
        due("without GIFTS", x.amount(1, 3), 20);
    }

    private static void hasAndAll() {
        says("HAS of a GIVER: what all WORKS are WORTH to him, and KEEP for each coin that he kept.");
        GiftMatch x = scene(2, 6, 3, 0);
        due("all kept", x.has(0), 60);
        give(x, 0, 1, 2, 3);
        due("none kept", x.has(0), 0);
        x.worth(0, 0, 100, 0);
        x.worth(0, 1, 10, 0);
        x.worth(0, 2, 1, 0);
        due("all WORKS", x.has(0), 123);
        x.give(0, 2, 2);
        due("one kept", x.has(0), 132);
        x.worth(1, 2, 7, 0);
        due("by what others gave", x.has(1), 74);
        says("ALL: of all GIVERS together.");
        due("of both", x.has(NONE), 132 + 74);
        due("of none", new GiftMatch().has(NONE), 0);
        GiftMatch most = scene(5, 12, 3, 0);
        for (int g = 0; g < 5; g++) {
            for (int w = 0; w < 3; w++) {
                most.worth(g, w, 200, 0);
            }
        }
        most.set(0, 99);
        most.set(2, 200);
        write(most, 0, "66");
        due("of five, each with three WORKS of 60 coins and all kept", most.has(NONE), 5 * (3 * 60 * 200 + 12 * 99));
    }

    // ---- gifts at rest

    private static void bestDue(GiftMatch x, int giver, int most, int... row) {
        due("what giver " + giver + " HAS by it", x.best(giver, NONE), most);
        for (int w = 0; w < row.length; w++) {
            due("his GIFT to work " + w, x.best(giver, w), row[w]);
        }
    }

    private static void bestOfAll() {
        says("BEST of a GIVER: of all his GIFTS (rows by WORKS) with the others' as they are that by which he HAS most,");
        bestDue(scene(1, 0, 2, 0), 0, 0, 0, 0);
        bestDue(scene(1, 12, 0, 0), 0, 120);
        GiftMatch x = scene(2, 5, 2, 0);
        x.worth(0, 0, 11, 0);
        bestDue(x, 0, 55, 5, 0);
        x.worth(0, 1, 12, 2);
        bestDue(x, 0, 56, 4, 1);
        give(x, 0, 0, 5);
        bestDue(x, 0, 56, 4, 1);
        give(x, 1, 0, 1);
        bestDue(x, 0, 67, 5, 0);
        GiftMatch y = scene(2, 3, 1, 5);
        y.worth(0, 0, 10, 0);
        y.set(0, 9);
        give(y, 1, 2);
        bestDue(y, 0, 50, 3);
        give(y, 1, 1);
        bestDue(y, 0, 27, 0);
        write(y, 0, "n=2");
        bestDue(y, 0, 50, 3);
        says("of like ones the first row.");
        GiftMatch z = scene(1, 2, 3, 0);
        bestDue(z, 0, 20, 0, 0, 0);
        z.set(0, 0);
        give(z, 0, 2, 0, 0);
        bestDue(z, 0, 0, 0, 0, 0);
        for (int w = 0; w < 3; w++) {
            z.worth(0, w, 5, 0);
        }
        bestDue(z, 0, 10, 0, 0, 2);
        z.worth(0, 2, 5, 1);
        bestDue(z, 0, 10, 0, 1, 1);
        z.worth(0, 1, 5, 1);
        bestDue(z, 0, 10, 0, 1, 1);
        z.worth(0, 2, 0, 0);
        bestDue(z, 0, 10, 1, 1, 0);
        z.worth(0, 0, 0, 0);
        z.worth(0, 1, 0, 0);
        bestDue(z, 0, 0, 0, 0, 0);
    }

    private static void restOrFirst() {
        says("REST: nobody HAS more by his BEST than now;");
        GiftMatch x = scene(3, 4, 1, 0);
        due("nothing is worth giving", x.rest(0), NONE);
        due("nothing is worth giving", x.rest(1), NONE);
        x.worth(1, 0, 10, 0);
        due("as much by his BEST", x.rest(0), NONE);
        give(x, 1, 4);
        due("as much by another row", x.rest(0), NONE);
        due("of no GIVERS", new GiftMatch().rest(0), NONE);
        says("else the first GIVER who has, by how much.");
        x.worth(1, 0, 9, 0);
        due("one less worth", x.rest(0), 1);
        due("four coins", x.rest(1), 4);
        x.worth(2, 0, 200, 0);
        due("the first, not the one by most", x.rest(0), 1);
        due("the first, not the one by most", x.rest(1), 4);
        give(x, 1, 0);
        due("the next", x.rest(0), 2);
        due("the next", x.rest(1), 4 * 190);
    }

    private static void turnsToRest() {
        says("BY TURNS from the GIFTS as they are: GIVER by GIVER, round and round: who HAS more by his BEST gives so.");
        GiftMatch x = scene(2, 4, 1, 0);
        x.worth(0, 0, 13, 1);
        x.worth(1, 0, 13, 1);
        due("turns", x.turns(), 0);
        giftsDue(x, 2, 1, 3, 0);
        give(x, 0, 0);
        give(x, 1, 2);
        due("from the GIFTS as they are", x.turns(), 0);
        giftsDue(x, 2, 1, 1, 2);
        give(x, 0, 2);
        give(x, 1, 2);
        due("who HAS no more by his BEST keeps his GIFTS", x.turns(), 0);
        giftsDue(x, 2, 1, 2, 2);
        says("It ends at REST (as many turns one behind the other as there are GIVERS in which none changed),");
        GiftMatch y = scene(3, 2, 1, 6);
        for (int g = 0; g < 3; g++) {
            y.worth(g, 0, 30, 0);
        }
        due("nobody alone", y.turns(), 0);
        giftsDue(y, 3, 1, 0, 0, 0);
        give(y, 0, 2);
        give(y, 2, 2);
        y.worth(0, 0, 3, 0);
        due("the last of a round, then all again", y.turns(), 0);
        giftsDue(y, 3, 1, 0, 0, 0);
        give(y, 1, 2);
        give(y, 2, 2);
        y.worth(0, 0, 30, 0);
        due("the first alone", y.turns(), 0);
        giftsDue(y, 3, 1, 2, 2, 2);
        GiftMatch one = scene(1, 3, 1, 0);
        one.worth(0, 0, 11, 0);
        due("one GIVER", one.turns(), 0);
        giftsDue(one, 1, 1, 3);
        due("no WORKS", scene(2, 5, 0, 0).turns(), 0);
    }

    /** Giver 0 gives if the other does, giver 1 if the other does not: 0 and 2 and 6 coins by none, one, both. */
    private static GiftMatch ring(int a, int b) {
        GiftMatch x = scene(2, 1, 1, 0);
        x.worth(0, 0, 3, 0);
        x.worth(1, 0, 12, 12);
        write(x, 0, "r");
        give(x, 0, a);
        give(x, 1, b);
        return x;
    }

    private static void turnsInRing() {
        says("or in a RING (behind a round all GIFTS are as behind an earlier round or at first, though some changed),");
        GiftMatch x = ring(0, 0);
        due("as behind the first round", x.turns(), 1);
        giftsDue(x, 2, 1, 0, 1);
        due("as at first", x.turns(), 1);
        giftsDue(x, 2, 1, 0, 1);
        GiftMatch y = ring(1, 0);
        due("as at first", y.turns(), 1);
        giftsDue(y, 2, 1, 1, 0);
        GiftMatch z = ring(1, 1);
        due("as behind the first round", z.turns(), 1);
        giftsDue(z, 2, 1, 1, 0);
        due("no REST in it", z.rest(0), 0);
        everyGiftIsCompared();
    }

    /** A round that changes one gift alone is behind the first no RING. */
    private static void everyGiftIsCompared() {
        for (int g = 0; g < 5; g++) {
            for (int w = 0; w < 3; w++) {
                for (int coins = 1; coins <= 12; coins++) {
                    GiftMatch x = scene(5, 12, 3, coins);
                    x.worth(g, w, 200, 0);
                    x.set(0, 99);
                    write(x, 0, "0-s");
                    due("giver " + g + " gives " + coins + " to work " + w, x.turns(), 0);
                    due("all that is worth it", x.count(2), 12);
                    x.worth(g, w, 50, 50);
                    due("none is worth it", x.turns(), 0);
                    due("all taken back", x.count(2), 0);
                }
            }
        }
        for (int w = 0; w < 2; w++) {
            for (int coins = 2; coins <= 12; coins++) {
                GiftMatch x = scene(1, 12, 3, 0);
                x.give(0, w + 1, coins);
                x.worth(0, w, 50, 50);
                due(coins + " taken back from a work, and 1 given to another", x.turns(), 0);
                due("1 given", x.count(2), 1);
            }
        }
        GiftMatch last = scene(3, 0, 3, 0);
        last.giver(1);
        last.giver(1);
        last.worth(3, 2, 3, 0);
        last.worth(4, 2, 12, 12);
        write(last, 0, "r*(n>0)");
        last.give(4, 2, 1);
        due("the last two to the last work", last.turns(), 1);
        giftsDue(last, 5, 3, 0, 0, 0, 0, 0, 0, 0, 0, 0, 0, 0, 0, 0, 0, 1);
    }

    /** BAR; COIN; FIRST of each giver in turn; FALL likewise; KEEP, PURSE, PARTED; the rule is (s=4)*9. */
    private static GiftMatch longScene(int[] bars, int[] coins, int[] firsts, int[] falls, int[] settings, int... gifts) {
        GiftMatch x = new GiftMatch();
        for (int bar : bars) {
            x.work(bar);
        }
        for (int g = 0; g < coins.length; g++) {
            x.giver(coins[g]);
            for (int w = 0; w < bars.length; w++) {
                int at = g * bars.length + w;
                x.worth(g, w, firsts[at], falls[at]);
                x.give(g, w, gifts[at]);
            }
        }
        write(x, 0, "(s=4)*9");
        x.set(0, settings[0]);
        x.set(2, settings[1]);
        x.set(3, settings[2]);
        return x;
    }

    private static GiftMatch restsLate(int... gifts) {
        return longScene(new int[] {6, 3, 0}, new int[] {10, 10, 11, 3},
            new int[] {40, 45, 68, 58, 71, 0, 26, 34, 54, 50, 33, 67}, new int[] {8, 1, 2, 5, 5, 4, 0, 7, 9, 7, 9, 1},
            new int[] {6, 20, 2}, gifts);
    }

    /** The same scene with the first giver behind all others. */
    private static GiftMatch restsLateTurned(int... gifts) {
        return longScene(new int[] {6, 3, 0}, new int[] {10, 11, 3, 10},
            new int[] {58, 71, 0, 26, 34, 54, 50, 33, 67, 40, 45, 68}, new int[] {5, 5, 4, 0, 7, 9, 7, 9, 1, 8, 1, 2},
            new int[] {6, 20, 2}, gifts);
    }

    private static GiftMatch ringsLate(int... gifts) {
        return longScene(new int[] {1, 4, 8}, new int[] {6, 9, 4}, new int[] {55, 42, 44, 48, 40, 70, 38, 50, 35},
            new int[] {3, 1, 2, 3, 6, 1, 0, 6, 9}, new int[] {28, 8, 2}, gifts);
    }

    private static GiftMatch ringsTooLate(int... gifts) {
        return longScene(new int[] {5, 5}, new int[] {9, 12, 10}, new int[] {34, 18, 38, 78, 42, 30},
            new int[] {1, 4, 5, 8, 3, 4}, new int[] {25, 3, 1}, gifts);
    }

    private static void turnsSpent() {
        says("or behind 40 rounds (SPENT).");
        due("REST in the 40th round", restsLate(4, 3, 1, 0, 0, 0, 0, 1, 2, 0, 1, 1).turns(), 0);
        GiftMatch x = restsLate(2, 4, 1, 2, 0, 1, 0, 0, 1, 0, 1, 1);
        due("a change in the 40th round", x.turns(), 2);
        due("though nobody would change then", x.rest(0), NONE);
        due("turns again", x.turns(), 0);
        GiftMatch still = restsLateTurned(0, 0, 0, 0, 1, 2, 0, 1, 1, 6, 2, 1);
        due("the first changed in the 39th round, none in the 40th", still.turns(), 0);
        GiftMatch first = restsLateTurned(2, 0, 1, 0, 0, 1, 0, 1, 1, 4, 3, 1);
        due("the first changed in the 40th round, none behind him", first.turns(), 2);
        due("though nobody would change then", first.rest(0), NONE);
        due("a RING behind the 40th round", ringsLate(1, 3, 0, 2, 2, 4, 1, 0, 1).turns(), 1);
        GiftMatch y = ringsLate(2, 4, 0, 4, 1, 4, 4, 0, 0);
        due("a RING behind the 41st round", y.turns(), 2);
        giftsDue(y, 3, 3, 1, 1, 4, 2, 4, 0, 1, 0, 1);
        says("The GIFTS are those then.");
        GiftMatch z = ringsTooLate(0, 0, 0, 0, 0, 0);
        due("45 rounds to a RING", z.turns(), 2);
        giftsDue(z, 3, 2, 0, 1, 5, 1, 1, 2);
        GiftMatch at40 = ringsLate(1, 3, 0, 2, 2, 4, 1, 0, 1);
        at40.turns();
        giftsDue(at40, 3, 3, 1, 2, 3, 5, 3, 0, 3, 0, 1);
        GiftMatch atRest = restsLate(4, 3, 1, 0, 0, 0, 0, 1, 2, 0, 1, 1);
        atRest.turns();
        giftsDue(atRest, 4, 3, 2, 7, 1, 0, 6, 0, 2, 0, 2, 0, 0, 1);
    }

    private static void goodDue(GiftMatch x, int most, int... row) {
        due("how much", x.good(NONE), most);
        for (int w = 0; w < row.length; w++) {
            due("the AMOUNT of work " + w, x.good(w), row[w]);
        }
    }

    private static void goodOfAll() {
        says("GOOD: all COIN and THE PURSE are one: the most that WORKS are WORTH to all GIVERS together");
        GiftMatch x = scene(2, 1, 1, 0);
        x.set(2, 1);
        x.worth(0, 0, 6, 0);
        x.worth(1, 0, 5, 0);
        goodDue(x, 33, 3);
        give(x, 0, 1);
        write(x, 0, "99");
        x.set(3, 2);
        goodDue(x, 33, 3);
        says("and KEEP for each coin left, no more of these than all COIN:");
        x.set(2, 200);
        x.worth(0, 0, 1, 0);
        x.worth(1, 0, 0, 0);
        goodDue(x, 60 + 20, 60);
        x.set(2, 59);
        goodDue(x, 59 + 20, 59);
        x.set(2, 0);
        goodDue(x, 20, 0);
        x.set(0, 0);
        goodDue(x, 2, 2);
        goodDue(new GiftMatch(), 0);
        goodDue(scene(5, 12, 0, 0), 600);
        goodDue(scene(0, 0, 3, 0), 0, 0, 0, 0);
        says("over all whole AMOUNTS that can be paid;");
        GiftMatch y = scene(1, 12, 3, 60);
        for (int w = 0; w < 3; w++) {
            y.worth(0, w, 200, 0);
        }
        y.set(2, 48);
        goodDue(y, 12000, 0, 0, 60);
        y.set(2, 47);
        goodDue(y, 120, 0, 0, 0);
        y.set(2, 168);
        goodDue(y, 36000, 60, 60, 60);
        y.set(2, 167);
        goodDue(y, 24000 + 120, 0, 60, 60);
        y.set(2, 200);
        goodDue(y, 36000 + 120, 60, 60, 60);
        GiftMatch most = scene(5, 12, 3, 60);
        for (int g = 0; g < 5; g++) {
            for (int w = 0; w < 3; w++) {
                most.worth(g, w, 200, 0);
            }
        }
        most.set(0, 99);
        most.set(2, 200);
        goodDue(most, 5 * 36000 + 99 * 60, 60, 60, 60);
        most.set(2, 121);
        goodDue(most, 5 * 36000 + 99, 60, 60, 60);
        most.set(2, 120);
        goodDue(most, 5 * 36000, 60, 60, 60);
        most.set(2, 119);
        goodDue(most, 5 * 24000 + 99 * 59, 0, 60, 60);
        says("of like ones the first row of AMOUNTS.");
        GiftMatch z = scene(1, 2, 3, 0);
        z.set(0, 0);
        z.set(2, 0);
        goodDue(z, 0, 0, 0, 0);
        for (int w = 0; w < 3; w++) {
            z.worth(0, w, 4, 0);
        }
        goodDue(z, 8, 0, 0, 2);
        z.worth(0, 2, 4, 1);
        goodDue(z, 8, 0, 1, 1);
        z.worth(0, 2, 0, 0);
        goodDue(z, 8, 0, 2);
        z.set(0, 4);
        goodDue(z, 8, 0, 0, 0);
    }

    private static void goodIsLost() {
        says("LOST: GOOD less ALL.");
        due("nobody there", new GiftMatch().lost(), 0);
        GiftMatch x = scene(2, 3, 1, 0);
        x.set(2, 0);
        due("nothing to be had", x.lost(), 0);
        x.worth(0, 0, 6, 0);
        x.worth(1, 0, 6, 0);
        due("nothing given", x.lost(), 72 - 60);
        give(x, 0, 3);
        give(x, 1, 2);
        due("one coin", x.lost(), 2);
        give(x, 1, 3);
        due("all given", x.lost(), 0);
    }

    // ---- hands

    private static GiftMatch giving(int coins, String text) {
        GiftMatch x = scene(1, 12, 1, 0);
        x.worth(0, 0, 10, 0);
        x.give(0, 0, coins);
        write(x, 0, text);
        return x;
    }

    private static void handsOfOne() {
        says("HANDS: a GIVER may give his GIFT to one WORK by up to 4 hands,");
        due("4 hands", giving(12, "(n=4)*7").gain(0, 0), 70);
        due("no 5 hands", giving(12, "(n=5)*7").gain(0, 0), 0);
        due("3 hands", giving(12, "(n=3)*7").gain(0, 0), 70);
        due("2 hands", giving(12, "(n=2)*7").gain(0, 0), 70);
        says("whole coins of 1 at least each:");
        int[] most = {0, 0, 10, 20, 30, 30};
        for (int coins = 0; coins < most.length; coins++) {
            due(coins + " coins", giving(coins, "n").gain(0, 0), most[coins]);
        }
        due("1 is the least", giving(12, "(l=1)*5").gain(0, 0), 50);
        due("11 is the greatest", giving(12, "(n>1)*(m>10)*5").gain(0, 0), 50);
        due("no 12 beside another", giving(12, "(n>1)*(m>11)*5").gain(0, 0), 0);
        due("like ones", giving(12, "(l=3)*(m=3)*5").gain(0, 0), 50);
        due("9, 1, 1, 1", giving(12, "(n=4)*(m=9)*5").gain(0, 0), 50);
        due("no 10 in four", giving(12, "(n=4)*(m=10)*5").gain(0, 0), 0);
        due("3, 1", giving(4, "(n=2)*(l=1)*5").gain(0, 0), 50);
        due("all his coins", giving(5, "(s=5)*(n=3)*(m=2)*5").gain(0, 0), 50);
        says("the RULE sees each as a GIFT.");
        due("roots", giving(4, "r").gain(0, 0), 10 * (16 - 4));
        due("beside the others'", handsBesideAnother("(n=5)*6"), 60);
        due("beside the others'", handsBesideAnother("(l=1)*(m=7)*6"), 60);
        due("2, 2, 3, 5 beside 7, 7, 8, 9: roots of 17.916472 squared", handsBesideFour("(r=320)*7"), 70);
        due("no roots of 17.916473", handsBesideFour("(r=321)*7"), 0);
    }

    private static int handsBesideAnother(String text) {
        GiftMatch x = giving(4, text);
        x.giver(12);
        x.give(1, 0, 7);
        return x.gain(0, 0);
    }

    private static int handsBesideFour(String text) {
        GiftMatch x = giving(12, text);
        int[] others = {7, 7, 8, 9};
        for (int g = 1; g <= 4; g++) {
            x.giver(12);
            x.give(g, 0, others[g - 1]);
        }
        return x.gain(0, 0);
    }

    private static void gainOfHands() {
        says("GAIN: the most that he HAS so (by any such parting for that WORK, all else as it is) less what he HAS.");
        due("one hand is best", giving(6, "l*2").gain(0, 0), 0);
        due("one hand is as good", giving(6, "s").gain(0, 0), 0);
        due("the most", giving(5, "(n=2)*3+(n=3)*9+(n=4)*5").gain(0, 0), 90);
        due("less what he HAS", giving(5, "(n=1)*4+(n=3)*9").gain(0, 0), 50);
        GiftMatch x = giving(4, "n*7");
        x.work(0);
        x.worth(0, 1, 4, 0);
        x.give(0, 1, 2);
        due("for that WORK alone", x.gain(0, 1), 4 * 7);
        due("for that WORK alone", x.gain(0, 0), 10 * 21);
        x.set(2, 14);
        due("28 and 7 of 14: 11 and 2 in the place of 7 and 7", x.gain(0, 0), 10 * 4 - 4 * 5);
        x.worth(0, 1, 9, 0);
        due("no parting is worth what the other WORK loses", x.gain(0, 0), 0);
        due("nothing of it stays", x.amount(0, 1), 7);
        giftsDue(x, 1, 2, 4, 2);
    }

    private static void worthTheCost() {
        says("WORTH IT: from hands that cost c each beyond the first: "
            + "the least c (0 .. 999) with which no parting makes him HAVE more.");
        due("nothing to part", giving(1, "n*7").hand(0, 0), 0);
        due("no parting brings more", giving(12, "s").hand(0, 0), 0);
        due("10 by the second hand", giving(12, "n=2").hand(0, 0), 10);
        due("10 by two hands more", giving(12, "n=3").hand(0, 0), 5);
        due("10 by three hands more, not cut", giving(12, "n=4").hand(0, 0), 4);
        due("20 by two, 60 by three, 75 by four", giving(12, "(n=2)*2+(n=3)*6+(n=4)*8").hand(0, 0), 30);
        due("40 by two, 60 by three", giving(12, "(n=2)*4+(n=3)*6+(n=4)*6").hand(0, 0), 40);
        int[] firsts = {27, 100, 101, 112};
        int[] more = {37, 10, 10, 9};
        int[] least = {999, NONE, NONE, NONE};
        for (int i = 0; i < firsts.length; i++) {
            GiftMatch x = giving(2, "(n=2)*" + more[i]);
            x.worth(0, 0, firsts[i], 0);
            due(firsts[i] * more[i] + " by the second hand", x.hand(0, 0), least[i]);
        }
        GiftMatch y = giving(12, "(n=4)*37");
        y.worth(0, 0, 81, 0);
        due("2997 by three hands more", y.hand(0, 0), 999);
        GiftMatch z = giving(12, "(n=4)*14");
        z.worth(0, 0, 200, 0);
        z.give(0, 0, 4);
        due("2800 by three hands more", z.hand(0, 0), 934);
        write(z, 0, "(n=4)*15");
        due("3000 by three hands more", z.hand(0, 0), NONE);
    }

    private static void anywayGiven() {
        says("ANYWAY: BY TURNS from no GIFTS at all without anything added: how many coins are given at last in all");
        GiftMatch x = scene(2, 5, 1, 4);
        x.worth(0, 0, 20, 0);
        x.worth(1, 0, 5, 0);
        due("he alone", x.anyway(0), 5);
        write(x, 0, "99");
        x.set(2, 200);
        due("without anything added", x.anyway(0), 5);
        x.worth(0, 0, 9, 0);
        give(x, 0, 4);
        due("nobody", x.anyway(0), 0);
        give(x, 1, 3);
        due("from no GIFTS at all", x.anyway(0), 0);
        giftsDue(x, 2, 1, 4, 3);
        due("nobody there", new GiftMatch().anyway(0), 0);
        anywayIsNotKept();
        says("(SPENT, RING too: as they are then).");
        GiftMatch y = longScene(new int[] {10, 8}, new int[] {4, 12, 3}, new int[] {72, 29, 54, 6, 12, 61},
            new int[] {4, 8, 7, 1, 0, 1}, new int[] {2, 55, 0}, 1, 0, 0, 2, 3, 0);
        due("a RING behind round 3: 10 and 3", y.anyway(0), 13);
        anywaySpent();
        says("MOVED: coins given as they are less those.");
        due("fewer than anyway", y.anyway(1), 6 - 13);
        due("more than anyway", x.anyway(1), 7);
        due("nobody there", new GiftMatch().anyway(1), 0);
    }

    /** In one a RING would come behind the 49th round, in the other REST in the 44th. */
    private static void anywaySpent() {
        spentDue(new int[][] {{9, 12, 9}, {3, 12, 12}, {121, 196, 191, 22, 144, 160, 186, 122, 188},
            {37, 12, 14, 1, 24, 13, 15, 5, 12}, {11, 200, 0}}, 23, 27, 24);
        spentDue(new int[][] {{7, 9, 9}, {6, 9, 5, 9, 1},
            {152, 191, 111, 31, 120, 140, 147, 186, 126, 171, 64, 118, 57, 24, 4},
            {18, 4, 11, 3, 28, 15, 45, 43, 13, 23, 6, 36, 38, 42, 38}, {5, 200, 0}}, 17, 25, 27);
    }

    /** So many coins are given behind the 39th, the 40th and the 41st round when each turn is followed by itself. */
    private static void spentDue(int[][] told, int behind39, int behind40, int behind41) {
        int[] gifts = new int[told[2].length];
        GiftMatch x = longScene(told[0], told[1], told[2], told[3], told[4], gifts);
        due("SPENT, whatever THE RULE is", x.anyway(0), behind40);
        due("MOVED from none", x.anyway(1), -behind40);
        x.erase(0);
        due("turns without anything added", x.turns(), 2);
        due("coins given then", x.count(2), behind40);
        due("SPENT, whatever is given", x.anyway(0), behind40);
        due("MOVED", x.anyway(1), 0);
        for (int round = 1; round <= 41; round++) {
            // A new object each round: none is used for more than 512 calls.
            GiftMatch y = longScene(told[0], told[1], told[2], told[3], told[4], gifts);
            y.erase(0);
            takeTurns(y);
            gifts = giftsOf(y, y.count(0), y.count(1));
            int want = round == 39 ? behind39 : round == 40 ? behind40 : round == 41 ? behind41 : y.count(2);
            due("coins behind round " + round, y.count(2), want);
        }
    }

    private static void takeTurns(GiftMatch x) {
        for (int g = 0; g < x.count(0); g++) {
            if (x.best(g, NONE) > x.has(g)) {
                give(x, g, x.best(g, 0), x.best(g, 1), x.best(g, 2));
            }
        }
    }

    /** Where nobody would change anything, what an earlier call gave would stay. */
    private static void anywayIsNotKept() {
        GiftMatch x = scene(5, 12, 3, 0);
        for (int g = 0; g < 5; g++) {
            for (int w = 0; w < 3; w++) {
                x.set(0, 10);
                x.worth(g, w, 11, 0);
                due("giver " + g + " to work " + w, x.anyway(0), 12);
                x.set(0, 0);
                x.worth(g, w, 0, 0);
                due("from no GIFTS at all, again", x.anyway(0), 0);
            }
        }
        due("nothing given", x.count(2), 0);
    }

    // ---- laws

    private static int breach(String text, int law, int top) {
        GiftMatch x = new GiftMatch();
        write(x, 1, text);
        return x.breach(1, law, top);
    }

    private static void lawsOfTwo() {
        says("LAWS of a RULE, for two GIFTS a, b of 0 .. top coins (top 1 .. 12) to one WORK:");
        due("top 0", breach("99", 2, 0), BAD);
        due("top 13", breach("99", 2, 13), BAD);
        for (int top = 1; top <= 12; top++) {
            due("a breach at the top alone", breach("(s=" + 2 * top + ")*99", 2, top), 101 * top);
            due("a breach above the top", breach("(s=" + (2 * top + 1) + ")*99", 2, top), NONE);
            due("b at the top", breach("(m=" + top + ")*99", 2, top), top);
        }
        due("two GIFTS", breach("(n>2)*99", 2, 12), NONE);
        due("none of 0 coins is seen", breach("(l=0)*(n>0)*99", 2, 12), NONE);
        GiftMatch x = new GiftMatch();
        due("law -1", x.breach(0, -1, 5), BAD);
        due("law 4", x.breach(0, 4, 5), BAD);
    }

    private static void lawOfMore() {
        says("0: with a coin more in a (as long as it is no more than top) the AMOUNT (without THE PURSE) is no less;");
        due("one less is added", breach("12-s", 0, 6), NONE);
        due("two less are added", breach("24-s*2", 0, 6), 0);
        due("from 3 to 4", breach("(s=3)*2", 0, 4), 3);
        due("4 is more than top", breach("(m=3)*(n=1)*2", 0, 3), 3);
        due("a at top", breach("(m=3)*(s=6)*2", 0, 3), NONE);
        due("a below top", breach("(m=3)*(s=6)*2", 0, 4), 303);
        GiftMatch x = new GiftMatch();
        write(x, 1, "50-s*2");
        x.set(2, 0);
        due("without THE PURSE", x.breach(1, 0, 6), 0);
        due("told at 99 both times", breach("150-s*2", 0, 12), NONE);
    }

    private static void lawOfHands() {
        says("1: a in two hands (1 .. a less 1) adds no more;");
        due("one hand more", breach("n", 1, 12), 200);
        due("a of 1 has no two hands", breach("n", 1, 1), NONE);
        due("as much", breach("s", 1, 12), NONE);
        due("less", breach("m", 1, 12), NONE);
        due("a hand of 1", breach("(n=2)*(l=1)*(m=4)", 1, 12), 500);
        due("a in two hands, not b", breach("(n=3)*(l=2)*9", 1, 12), 402);
        due("no three hands", breach("(n>3)*9", 1, 12), NONE);
        due("no hand of all", breach("(n=2)*(m=2)*(s=2)*9", 1, 12), NONE);
    }

    private static void lawOfBoth() {
        says("2: no more is added than both;");
        due("as much as both", breach("s", 2, 12), NONE);
        due("one more than both", breach("s+1", 2, 12), 0);
        due("one more than both", breach("s+(s=5)", 2, 12), 5);
        due("99 at most", breach("s*(s<24)+(s=24)*99", 2, 12), 1212);
    }

    private static void lawOfSomething() {
        says("3: something is added as soon as both give.");
        due("1 is something", breach("1", 3, 12), NONE);
        due("nothing", breach("0", 3, 12), 101);
        due("only when both give", breach("n=2", 3, 12), NONE);
        due("below 0 is nothing", breach("3-s", 3, 12), 102);
        due("with a FAULT", breach("9+", 3, 12), 101);
        due("empty", breach("", 3, 12), 101);
    }

    private static void firstBreach() {
        says("BREACH: the first a, b (by a, then b) by which it is not so: 100 a and b;");
        due("by a", breach("(m=9)*99", 2, 12), 9);
        due("then b", breach("(n=2)*(m=9)*99", 2, 12), 109);
        due("by a, not by both together", breach("(s=2)*9+(m=12)*99", 2, 12), 2);
        due("a ahead of b", breach("(l=1)*(m=12)*99", 2, 12), 112);
        due("both at the top", breach("(s=24)*99", 2, 12), 1212);
        due("none given", breach("9", 2, 12), 0);
        says("none.");
        for (int law = 0; law < 4; law++) {
            due("law " + law, breach("m", law, 12), NONE);
        }
    }

    private static void imagesOfAll() {
        says("IMAGES 0, 1 keep all but them; it goes on from one.");
        GiftMatch x = fullScene();
        long full = x.digest();
        due("image(1)", x.image(1), 1);
        due("image(0)", x.image(0), 1);
        due("image(-1)", x.image(-1), BAD);
        due("image(2)", x.image(2), BAD);
        x.turns();
        x.erase(0);
        x.write(1, 's');
        x.set(0, 1);
        x.set(1, 0);
        x.set(2, 3);
        x.set(3, 0);
        x.worth(4, 2, 1, 1);
        due("another image", x.image(0), 1);
        long other = x.digest();
        due("other than it", other == full ? 1 : 0, 0);
        for (int times = 0; times < 2; times++) {
            due("from(1)", x.from(1), 1);
            due("all of image 1", x.digest(), full);
            due("the FAULT too", x.fault(2), 11);
            x.set(0, 77);
            due("from(0)", x.from(0), 1);
            due("all of image 0", x.digest(), other);
            x.worth(0, 0, 0, 0);
        }
        x.from(1);
        x.image(0);
        x.giver(0);
        x.set(2, 100);
        due("an image over an older one", x.from(0), 1);
        due("it is the newer one", x.digest(), full);
        imagesKeepTexts();
        imagesOfFewer();
    }

    private static void imagesKeepTexts() {
        GiftMatch x = scene(0, 0, 1, 0);
        write(x, 0, "1+2");
        write(x, 1, "1+x");
        write(x, 2, "9-3");
        long before = x.digest();
        x.image(1);
        write(x, 0, "7*8");
        write(x, 1, "7+8");
        write(x, 2, "x-3");
        x.from(1);
        due("all texts", x.digest(), before);
        int[] adds = {3, 0, 6};
        int[] flaws = {NONE, 21, NONE};
        for (int rule = 0; rule < 3; rule++) {
            x.set(1, rule);
            due("what text " + rule + " tells", x.amount(0, 1), adds[rule]);
            due("the FAULT of text " + rule, x.fault(rule), flaws[rule]);
        }
        x.write(0, '3');
        x.set(1, 0);
        due("a character more", x.amount(0, 1), 24);
        x.from(1);
        due("an image is not written on", x.amount(0, 1), 3);
    }

    /** Works that were there, and are not in the image, neither have nor want anything. */
    private static void imagesOfFewer() {
        GiftMatch x = new GiftMatch();
        write(x, 0, "30");
        x.image(1);
        x.giver(6);
        x.work(0);
        x.worth(0, 0, 11, 0);
        x.image(0);
        for (int times = 0; times < 2; times++) {
            addWorksAndGiver(x);
            due("three works", x.isShort(), 1);
            bestDue(x, 0, 11 * (12 + 13) + 2 * 200 * 13 + 200 * 6, 0, 0, 6);
            x.from(0);
            oneWorkDue(x);
            x.set(0, 0);
        }
        addWorksAndGiver(x);
        due("three works", x.isShort(), 1);
        x.from(1);
        x.set(2, 0);
        due("no works", x.isShort(), 0);
        due("nobody", x.has(NONE), 0);
        goodDue(x, 0);
        due("nothing to lose", x.lost(), 0);
    }

    private static void addWorksAndGiver(GiftMatch x) {
        for (int w = 1; w < 3; w++) {
            x.work(0);
            x.worth(0, w, 200, 0);
            x.give(0, w, 3);
        }
        x.giver(12);
        x.worth(1, 0, 50, 0);
        x.give(1, 0, 12);
        x.set(0, 10);
        x.set(2, 40);
    }

    private static void oneWorkDue(GiftMatch x) {
        due("one work", x.isShort(), 0);
        due("all that it would have", x.amount(0, 2), 30);
        due("what he HAS", x.has(0), 330 + 60);
        due("of one giver", x.has(NONE), 330 + 60);
        due("no second work", x.amount(1, 0), BAD);
        due("no second giver", x.has(1), BAD);
        bestDue(x, 0, 36 * 11, 6);
        goodDue(x, 46 * 11, 46);
        x.set(2, 30);
        bestDue(x, 0, 36 * 11, 6);
        x.set(2, 29);
        bestDue(x, 0, 35 * 11, 6);
        due("by how much", x.rest(1), 6);
        due("nothing parted", x.gain(0, 0), 0);
        due("anyway", x.anyway(0), 6);
        due("turns", x.turns(), 0);
        giftsDue(x, 1, 1, 6);
    }

    /** Givers, works, and rule 0 are full; rules 1 and 2 tell something, and have a FAULT. */
    private static GiftMatch fullScene() {
        GiftMatch x = new GiftMatch();
        for (int g = 0; g < 5; g++) {
            x.giver(8 + g);
        }
        for (int w = 0; w < 3; w++) {
            x.work(4 * w);
        }
        for (int g = 0; g < 5; g++) {
            for (int w = 0; w < 3; w++) {
                x.worth(g, w, 30 + 7 * g + 11 * w, 1 + g + w);
                x.give(g, w, (g + 2 * w) % 4);
            }
        }
        write(x, 0, "-".repeat(39) + "s");
        write(x, 1, "r-s");
        write(x, 2, "s)");
        x.set(0, 21);
        x.set(1, 1);
        x.set(2, 33);
        x.set(3, 2);
        return x;
    }

    // ---- refused calls

    private static long call(GiftMatch x, String name, int... v) {
        switch (name) {
            case "giver": return x.giver(v[0]);
            case "work": return x.work(v[0]);
            case "worth": return x.worth(v[0], v[1], v[2], v[3]);
            case "set": return x.set(v[0], v[1]);
            case "write": return x.write(v[0], v[1]);
            case "erase": return x.erase(v[0]);
            case "fault": return x.fault(v[0]);
            case "give": return x.give(v[0], v[1], v[2]);
            case "amount": return x.amount(v[0], v[1]);
            case "has": return x.has(v[0]);
            case "best": return x.best(v[0], v[1]);
            case "rest": return x.rest(v[0]);
            case "good": return x.good(v[0]);
            case "gain": return x.gain(v[0], v[1]);
            case "hand": return x.hand(v[0], v[1]);
            case "anyway": return x.anyway(v[0]);
            case "breach": return x.breach(v[0], v[1], v[2]);
            case "image": return x.image(v[0]);
            case "from": return x.from(v[0]);
            default: return x.count(v[0]);
        }
    }

    /** For a full scene: each number of the call just below and just above what is told, and as far off as can be. */
    private static void refused(String name, int answer, int[] low, int[] high) {
        for (int i = 0; i < low.length; i++) {
            int[] tried = {low[i] - 1, high[i] + 1, MIN, MAX, MIN + 1, MAX - 1, low[i] - 65536, high[i] + 65536};
            for (int v : tried) {
                GiftMatch x = fullScene();
                x.image(0);
                long before = x.digest();
                int[] numbers = low.clone();
                numbers[i] = v;
                due(name + Arrays.toString(numbers), call(x, name, numbers), answer);
                for (int j = 0; j < low.length; j++) {
                    numbers[j] = j == i ? v : high[j] + 1;
                }
                due(name + Arrays.toString(numbers), call(x, name, numbers), answer);
                due(name + " changes nothing", x.digest(), before);
                due(name + " leaves the image", x.from(0), 1);
                due(name + " leaves the image", x.digest(), before);
                due(name + " keeps no image", x.from(1), NO);
            }
        }
    }

    private static void refusedCalls() {
        says("Refused, changing nothing, the first of: BAD -2 a number is not as told;");
        refused("giver", BAD, new int[] {0}, new int[] {12});
        refused("work", BAD, new int[] {0}, new int[] {60});
        refused("worth", BAD, new int[] {0, 0, 0, 0}, new int[] {4, 2, 200, 50});
        refused("write", BAD, new int[] {0, 0}, new int[] {2, 127});
        refused("erase", BAD, new int[] {0}, new int[] {2});
        refused("fault", BAD, new int[] {0}, new int[] {2});
        refused("give", BAD, new int[] {0, 0, 0}, new int[] {4, 2, 12});
        refused("amount", BAD, new int[] {0, 0}, new int[] {2, 3});
        refused("has", BAD, new int[] {-1}, new int[] {4});
        refused("best", BAD_CHOICE, new int[] {0, -1}, new int[] {4, 2});
        refused("rest", BAD_CHOICE, new int[] {0}, new int[] {1});
        refused("good", BAD_CHOICE, new int[] {-1}, new int[] {2});
        refused("gain", BAD, new int[] {0, 0}, new int[] {4, 2});
        refused("hand", BAD, new int[] {0, 0}, new int[] {4, 2});
        refused("anyway", BAD_ANYWAY, new int[] {0}, new int[] {1});
        refused("breach", BAD, new int[] {0, 0, 1}, new int[] {2, 3, 12});
        refused("image", BAD, new int[] {0}, new int[] {1});
        refused("from", BAD, new int[] {0}, new int[] {1});
        refused("count", BAD, new int[] {0}, new int[] {3});
        refusedSettings();
        nobodyThere();
        says("NO -3 as told;");
        GiftMatch x = fullScene();
        long before = x.digest();
        due("from(0)", x.from(0), NO);
        due("from(1)", x.from(1), NO);
        due("BAD ahead of NO", x.from(2), BAD);
        due("nothing changed", x.digest(), before);
        says("FULL -4.");
        due("a sixth giver", x.giver(12), FULL);
        due("a fourth work", x.work(60), FULL);
        due("a 41st character", x.write(0, 's'), FULL);
        due("BAD ahead of FULL", x.giver(13), BAD);
        due("BAD ahead of FULL", x.work(61), BAD);
        due("BAD ahead of FULL", x.write(0, 128), BAD);
        due("nothing changed", x.digest(), before);
    }

    private static void refusedSettings() {
        int[] tops = {99, 2, 200, 2};
        int[] now = {21, 1, 33, 2};
        for (int what = 0; what < 4; what++) {
            int[] tried = {-1, tops[what] + 1, MIN, MAX};
            for (int v : tried) {
                GiftMatch x = fullScene();
                long before = x.digest();
                due("set(" + what + ", " + v + ")", x.set(what, v), BAD);
                due("changes nothing", x.digest(), before);
                due("what it was", x.set(what, tops[what]), now[what]);
            }
        }
        int[] whats = {-1, 4, MIN, MAX};
        for (int what : whats) {
            GiftMatch x = fullScene();
            long before = x.digest();
            due("set(" + what + ", 1)", x.set(what, 1), BAD);
            due("changes nothing", x.digest(), before);
        }
    }

    /** Numbers that givers and works may have, but that none has yet. */
    private static void nobodyThere() {
        for (int givers = 0; givers <= 4; givers++) {
            for (int works = 0; works <= 2; works++) {
                GiftMatch x = scene(givers, 5, works, 0);
                long before = x.digest();
                int lastGiver = Math.max(0, givers - 1);
                int lastWork = Math.max(0, works - 1);
                int[][] pairs = {{givers, lastWork}, {lastGiver, works}, {givers, works}};
                for (int[] p : pairs) {
                    due("worth", x.worth(p[0], p[1], 1, 1), BAD);
                    due("give", x.give(p[0], p[1], 0), BAD);
                    due("gain", x.gain(p[0], p[1]), BAD);
                    due("hand", x.hand(p[0], p[1]), BAD);
                    due("best", x.best(p[0], p[1]), BAD_CHOICE);
                }
                due("best", x.best(givers, NONE), BAD_CHOICE);
                due("has", x.has(givers), BAD);
                due("amount", x.amount(works, 0), BAD);
                due("good", x.good(works), BAD_CHOICE);
                due("nothing changed", x.digest(), before);
            }
        }
    }

    // ---- promises 1 to 8

    private static void promisesOfScenes() {
        newObject();
        giverNumbers();
        workNumbers();
        worthIsTold();
        settings();
        characters();
        erasing();
        faultOfEmpty();
    }

    private static void newObject() {
        promise(1);
        says("As told; no GIVERS, no WORKS.");
        GiftMatch x = new GiftMatch();
        for (int what = 0; what < 4; what++) {
            due("count(" + what + ")", x.count(what), 0);
        }
        due("has(0)", x.has(0), BAD);
        due("amount(0, 0)", x.amount(0, 0), BAD);
        int[] firsts = {10, 0, 40, 0};
        for (int what = 0; what < 4; what++) {
            due("set(" + what + ", 1)", x.set(what, 1), firsts[what]);
        }
        for (int rule = 0; rule < 3; rule++) {
            due("erase(" + rule + ")", x.erase(rule), 0);
        }
        due("from(0)", x.from(0), NO);
        due("from(1)", x.from(1), NO);
        GiftMatch y = fullScene();
        y.image(0);
        due("beside another object", new GiftMatch().digest(), hashed(0, 0, 0, 0, 10, 0, 40, 0, 0, 0, 0, 0));
        due("beside another object's image", new GiftMatch().from(0), NO);
    }

    private static void giverNumbers() {
        promise(2);
        says("A GIVER: the number.");
        GiftMatch x = new GiftMatch();
        due("the first", x.giver(0), 0);
        due("the second", x.giver(12), 1);
        due("COIN 0 gives nothing", x.give(0, 0, 0), BAD);
        due("COIN 12", x.has(1), 120);
        says("BAD; FULL: 5.");
        due("-1", x.giver(-1), BAD);
        due("13", x.giver(13), BAD);
        due("a refused one is no GIVER", x.giver(1), 2);
        due("the fourth", x.giver(1), 3);
        due("the fifth", x.giver(1), 4);
        due("a sixth", x.giver(1), FULL);
        due("a sixth without COIN", x.giver(0), FULL);
        due("a wrong sixth", x.giver(13), BAD);
        due("five", x.count(0), 5);
        due("their COIN", x.count(3), 15);
        GiftMatch y = new GiftMatch();
        y.image(0);
        for (int g = 0; g < 5; g++) {
            y.giver(12);
        }
        y.from(0);
        due("from an image without GIVERS", y.giver(3), 0);
    }

    private static void workNumbers() {
        promise(3);
        says("A WORK: its number.");
        GiftMatch x = new GiftMatch();
        due("the first", x.work(60), 0);
        due("the second", x.work(0), 1);
        says("BAD; FULL: 3.");
        due("-1", x.work(-1), BAD);
        due("61", x.work(61), BAD);
        due("a refused one is no WORK", x.work(0), 2);
        due("a fourth", x.work(0), FULL);
        due("a fourth at the greatest BAR", x.work(60), FULL);
        due("a wrong fourth", x.work(61), BAD);
        due("three", x.count(1), 3);
    }

    private static void worthIsTold() {
        promise(4);
        says("FIRST, FALL: 1.");
        GiftMatch x = scene(1, 3, 1, 0);
        x.set(0, 0);
        x.give(0, 0, 3);
        due("told", x.worth(0, 0, 9, 2), 1);
        due("FIRST less FALL", x.has(0), 9 + 7 + 5);
        due("told again", x.worth(0, 0, 2, 0), 1);
        due("in its place", x.has(0), 6);
        says("BAD.");
        int[][] wrongOnes = {{-1, 0, 1, 1}, {1, 0, 1, 1}, {0, -1, 1, 1}, {0, 1, 1, 1},
            {0, 0, -1, 1}, {0, 0, 201, 1}, {0, 0, 1, -1}, {0, 0, 1, 51}};
        for (int[] v : wrongOnes) {
            due(Arrays.toString(v), x.worth(v[0], v[1], v[2], v[3]), BAD);
            due("nothing changed", x.has(0), 6);
        }
    }

    private static void settings() {
        promise(5);
        says("KEEP (0), THE RULE (1), THE PURSE (2), PARTED (3): what it was.");
        GiftMatch x = new GiftMatch();
        int[] was = {10, 0, 40, 0};
        int[] tops = {99, 2, 200, 2};
        for (int what = 0; what < 4; what++) {
            due("at first", x.set(what, tops[what]), was[what]);
            due("the greatest", x.set(what, tops[what] - 1), tops[what]);
            due("one less", x.set(what, 0), tops[what] - 1);
            due("the least", x.set(what, 0), 0);
            due("itself", x.set(what, was[what]), 0);
        }
        says("BAD.");
        for (int what = 0; what < 4; what++) {
            due("below", x.set(what, -1), BAD);
            due("above", x.set(what, tops[what] + 1), BAD);
            due("as it was", x.set(what, was[what]), was[what]);
        }
        due("what -1", x.set(-1, 0), BAD);
        due("what 4", x.set(4, 0), BAD);
    }

    private static void characters() {
        promise(6);
        says("A character (0 .. 127) behind a RULE: how many.");
        for (int from = 0; from < 128; from += 32) {
            GiftMatch x = new GiftMatch();
            for (int c = from; c < from + 32; c++) {
                due("character " + c, x.write(0, c), c - from + 1);
            }
            due("of another rule", x.write(1, 0), 1);
            due("how many", x.erase(0), 32);
        }
        says("BAD; FULL: 40.");
        GiftMatch y = new GiftMatch();
        due("-1", y.write(0, -1), BAD);
        due("128", y.write(0, 128), BAD);
        due("rule -1", y.write(-1, '1'), BAD);
        due("rule 3", y.write(3, '1'), BAD);
        for (int i = 1; i <= 40; i++) {
            due("the first 40", y.write(0, '1'), i);
        }
        due("a 41st", y.write(0, '1'), FULL);
        due("a wrong 41st", y.write(0, 128), BAD);
        due("another rule is not full", y.write(1, '1'), 1);
        due("40", y.erase(0), 40);
        due("empty again", y.write(0, '1'), 1);
    }

    private static void erasing() {
        promise(7);
        says("A RULE is empty: how many.");
        GiftMatch x = scene(0, 0, 1, 0);
        due("empty", x.erase(2), 0);
        write(x, 0, "7");
        write(x, 1, "x+");
        due("the other", x.erase(1), 2);
        due("it is empty", x.erase(1), 0);
        due("the other is as it was", x.amount(0, 1), 7);
        due("of one", x.erase(0), 1);
        due("empty adds nothing", x.amount(0, 1), 0);
        due("its FAULT", x.fault(0), 1);
        nothingStaysOfOlderTexts();
        says("BAD.");
        due("rule -1", x.erase(-1), BAD);
        due("rule 3", x.erase(3), BAD);
    }

    private static void nothingStaysOfOlderTexts() {
        GiftMatch x = scene(0, 0, 1, 0);
        String[] older = {"-7", "!(3", "((((((((", "((((((((", "((((((((", "((((((((", "((((((((", "1+2*3<4&5|6", "99999",
            "1234567", "9+x"};
        for (String text : older) {
            write(x, 0, text);
            write(x, 0, "5");
            due("behind " + text, x.amount(0, 1), 5);
        }
        write(x, 0, "1+2*(3-!0)");
        due("behind all of them", x.amount(0, 1), 5);
    }

    private static void faultOfEmpty() {
        promise(8);
        says("FAULT (of an empty one 1).");
        GiftMatch x = new GiftMatch();
        for (int rule = 0; rule < 3; rule++) {
            due("at first", x.fault(rule), 1);
        }
        write(x, 1, "s");
        x.erase(1);
        due("erased", x.fault(1), 1);
        says("NONE.");
        write(x, 1, "s");
        due("none", x.fault(1), NONE);
        says("BAD.");
        due("rule -1", x.fault(-1), BAD);
        due("rule 3", x.fault(3), BAD);
    }

    // ---- promises 9 to 17

    private static void promisesOfGifts() {
        giving();
        amountsOfWork();
        shortOrNot();
        hasOrAll();
        bestRow();
        restOfAll();
        turnsAnswer();
        goodAnswer();
        lostAnswer();
    }

    private static void giving() {
        promise(9);
        says("A GIFT: what it was.");
        GiftMatch x = scene(2, 5, 2, 0);
        due("none at first", x.give(0, 0, 5), 0);
        due("all his COIN", x.give(0, 0, 5), 5);
        due("less", x.give(0, 0, 2), 5);
        due("none again", x.give(0, 0, 0), 2);
        due("none as before", x.give(0, 0, 0), 0);
        says("BAD: more than his COIN together, too.");
        due("-1", x.give(0, 0, -1), BAD);
        due("more than his COIN", x.give(0, 0, 6), BAD);
        due("13", x.give(0, 0, 13), BAD);
        x.give(0, 0, 3);
        due("together", x.give(0, 1, 3), BAD);
        due("as much as his COIN", x.give(0, 1, 2), 0);
        due("one more", x.give(0, 0, 4), BAD);
        due("MAX", x.give(0, 0, MAX), BAD);
        due("giver -1", x.give(-1, 0, 0), BAD);
        due("giver 2", x.give(2, 0, 0), BAD);
        due("work -1", x.give(0, -1, 0), BAD);
        due("work 2", x.give(0, 2, 0), BAD);
        giftsDue(x, 2, 2, 3, 2, 0, 0);
        GiftMatch y = scene(1, 0, 1, 0);
        due("without COIN", y.give(0, 0, 1), BAD);
        due("nothing without COIN", y.give(0, 0, 0), 0);
    }

    private static void amountsOfWork() {
        promise(10);
        says("Of a WORK: GIFTS (0), what THE RULE would add (1), what is added (2), AMOUNT (3).");
        GiftMatch x = scene(2, 12, 2, 0);
        x.give(0, 0, 2);
        x.give(1, 0, 1);
        x.give(1, 1, 7);
        write(x, 0, "s*9");
        int[][] want = {{3, 27, 12, 15}, {7, 63, 28, 35}};
        for (int w = 0; w < 2; w++) {
            for (int what = 0; what < 4; what++) {
                due("amount(" + w + ", " + what + ")", x.amount(w, what), want[w][what]);
            }
        }
        says("BAD.");
        due("work -1", x.amount(-1, 0), BAD);
        due("work 2", x.amount(2, 0), BAD);
        due("what -1", x.amount(0, -1), BAD);
        due("what 4", x.amount(0, 4), BAD);
    }

    private static void shortOrNot() {
        promise(11);
        says("SHORT: 1, 0.");
        GiftMatch x = new GiftMatch();
        write(x, 0, "99");
        due("no WORKS", x.isShort(), 0);
        x.work(0);
        due("99 of 40", x.isShort(), 1);
        x.set(2, 99);
        due("99 of 99", x.isShort(), 0);
        x.set(2, 98);
        due("99 of 98", x.isShort(), 1);
        x.set(2, 0);
        x.erase(0);
        due("nothing of nothing", x.isShort(), 0);
    }

    private static void hasOrAll() {
        promise(12);
        says("HAS of a GIVER; ALL (NONE).");
        GiftMatch x = scene(2, 3, 0, 0);
        x.giver(12);
        due("the first", x.has(0), 30);
        due("the last", x.has(2), 120);
        due("ALL", x.has(-1), 180);
        says("BAD.");
        due("-2", x.has(-2), BAD);
        due("3", x.has(3), BAD);
    }

    private static void bestRow() {
        promise(13);
        says("BEST: what he HAS by it (what = NONE), the GIFT to WORK what.");
        GiftMatch x = scene(1, 3, 2, 0);
        x.worth(0, 1, 11, 0);
        bestDue(x, 0, 33, 0, 3);
        due("nothing given by it", x.count(2), 0);
        says("BAD: -10.");
        due("giver -1", x.best(-1, NONE), -10);
        due("giver 1", x.best(1, NONE), -10);
        due("what -2", x.best(0, -2), -10);
        due("what 2", x.best(0, 2), -10);
        due("what 3", x.best(0, 3), -10);
    }

    private static void restOfAll() {
        promise(14);
        says("REST: NONE; else the first GIVER who HAS more by his BEST (what = 0), by how much (1).");
        GiftMatch x = scene(5, 2, 1, 0);
        due("at REST", x.rest(0), NONE);
        due("at REST", x.rest(1), NONE);
        x.worth(4, 0, 11, 0);
        due("the last", x.rest(0), 4);
        due("by 1 for each coin", x.rest(1), 2);
        x.worth(0, 0, 11, 1);
        due("the first", x.rest(0), 0);
        due("by 1", x.rest(1), 1);
        says("BAD: -10.");
        due("-1", x.rest(-1), -10);
        due("2", x.rest(2), -10);
        due("nobody there", new GiftMatch().rest(2), -10);
    }

    private static void turnsAnswer() {
        promise(15);
        says("BY TURNS: 0 REST, 1 a RING, 2 SPENT.");
        due("REST", scene(1, 1, 1, 0).turns(), 0);
        due("a RING", ring(0, 0).turns(), 1);
        due("SPENT", ringsTooLate(0, 0, 0, 0, 0, 0).turns(), 2);
        says("(-5: no GIVERS; nothing changes.)");
        GiftMatch x = scene(0, 0, 2, 5);
        write(x, 0, "7");
        long before = x.digest();
        due("no GIVERS", x.turns(), -5);
        due("nothing changes", x.digest(), before);
        due("neither GIVERS nor WORKS", new GiftMatch().turns(), -5);
        x.giver(0);
        due("a GIVER without COIN", x.turns(), 0);
    }

    private static void goodAnswer() {
        promise(16);
        says("GOOD: how much (what = NONE), the AMOUNT of WORK what.");
        GiftMatch x = scene(1, 3, 2, 0);
        x.worth(0, 1, 11, 0);
        x.set(2, 2);
        goodDue(x, 55, 0, 5);
        says("BAD: -10.");
        due("-2", x.good(-2), -10);
        due("2", x.good(2), -10);
        due("no WORKS", new GiftMatch().good(0), -10);
    }

    private static void lostAnswer() {
        promise(17);
        says("LOST.");
        GiftMatch x = scene(1, 3, 1, 0);
        x.worth(0, 0, 11, 0);
        due("THE PURSE and three coins", x.lost(), 43 * 11 - 30);
        x.set(2, 0);
        due("three coins", x.lost(), 3);
        x.give(0, 0, 3);
        due("nothing", x.lost(), 0);
    }

    // ---- promises 18 to 21

    private static void promisesOfHands() {
        gainAnswer();
        handAnswer();
        anywayAnswer();
        breachAnswer();
    }

    private static void gainAnswer() {
        promise(18);
        says("GAIN.");
        due("without a GIFT", giving(0, "n").gain(0, 0), 0);
        due("of two coins", giving(2, "n").gain(0, 0), 10);
        GiftMatch x = giving(2, "n");
        long before = x.digest();
        x.gain(0, 0);
        due("nothing changes", x.digest(), before);
        says("BAD.");
        due("giver -1", x.gain(-1, 0), BAD);
        due("giver 1", x.gain(1, 0), BAD);
        due("work -1", x.gain(0, -1), BAD);
        due("work 1", x.gain(0, 1), BAD);
    }

    private static void handAnswer() {
        promise(19);
        says("WORTH IT: the least c.");
        due("without a GIFT", giving(0, "n").hand(0, 0), 0);
        due("of two coins", giving(2, "n").hand(0, 0), 10);
        GiftMatch x = giving(2, "n");
        long before = x.digest();
        x.hand(0, 0);
        due("nothing changes", x.digest(), before);
        says("BAD.");
        due("giver -1", x.hand(-1, 0), BAD);
        due("giver 1", x.hand(1, 0), BAD);
        due("work -1", x.hand(0, -1), BAD);
        due("work 1", x.hand(0, 1), BAD);
        says("NONE: none to 999.");
        GiftMatch y = giving(2, "(n=2)*9");
        y.worth(0, 0, 111, 0);
        due("999", y.hand(0, 0), 999);
        y.worth(0, 0, 112, 0);
        due("1008", y.hand(0, 0), NONE);
        y.worth(0, 0, 100, 0);
        write(y, 0, "(n=2)*10");
        due("1000", y.hand(0, 0), NONE);
    }

    private static void anywayAnswer() {
        promise(20);
        says("ANYWAY (0), MOVED (1).");
        GiftMatch x = scene(1, 5, 1, 0);
        x.worth(0, 0, 12, 1);
        due("ANYWAY", x.anyway(0), 2);
        due("MOVED below 0", x.anyway(1), -2);
        x.give(0, 0, 2);
        due("MOVED 0", x.anyway(1), 0);
        x.give(0, 0, 5);
        due("MOVED", x.anyway(1), 3);
        long before = x.digest();
        x.anyway(0);
        due("nothing changes", x.digest(), before);
        GiftMatch most = scene(5, 12, 1, 60);
        for (int g = 0; g < 5; g++) {
            most.give(g, 0, 12);
        }
        due("MOVED at most", most.anyway(1), 60);
        says("BAD: -1000.");
        due("-1", x.anyway(-1), -1000);
        due("2", x.anyway(2), -1000);
        due("nobody there", new GiftMatch().anyway(2), -1000);
    }

    private static void breachAnswer() {
        promise(21);
        says("BREACH.");
        due("the least", breach("1", 2, 1), 0);
        due("the greatest", breach("(s=24)*99", 2, 12), 1212);
        says("NONE.");
        due("none", breach("s", 2, 12), NONE);
        says("BAD.");
        GiftMatch x = new GiftMatch();
        int[][] wrongOnes = {{-1, 0, 1}, {3, 0, 1}, {0, -1, 1}, {0, 4, 1}, {0, 0, 0}, {0, 0, 13}, {0, 0, -1}};
        for (int[] v : wrongOnes) {
            due(Arrays.toString(v), x.breach(v[0], v[1], v[2]), BAD);
        }
        write(x, 2, "1");
        x.set(1, 0);
        due("of the RULE that is asked for, not THE RULE", x.breach(2, 2, 1), 0);
        due("of the RULE that is asked for", x.breach(0, 2, 1), NONE);
    }

    // ---- promises 22 to 25

    private static void promisesOfImages() {
        imageAnswer();
        fromAnswer();
        countAnswer();
        digestAnswer();
    }

    private static void imageAnswer() {
        promise(22);
        says("An IMAGE is kept: 1.");
        GiftMatch x = new GiftMatch();
        due("of a new object", x.image(0), 1);
        due("the other is not kept", x.from(1), NO);
        due("the last", x.image(1), 1);
        due("again", x.image(1), 1);
        says("BAD.");
        due("-1", x.image(-1), BAD);
        due("2", x.image(2), BAD);
    }

    private static void fromAnswer() {
        promise(23);
        says("It goes on from an IMAGE: 1.");
        GiftMatch x = new GiftMatch();
        long fresh = x.digest();
        x.image(1);
        x.giver(3);
        x.work(1);
        x.write(0, 's');
        due("to nothing", x.from(1), 1);
        due("all is gone", x.digest(), fresh);
        due("nobody there", x.has(0), BAD);
        due("again", x.from(1), 1);
        due("the first giver again", x.giver(2), 0);
        x.work(0);
        due("no GIFTS of those before", x.count(2), 0);
        says("BAD; NO: none was kept.");
        due("-1", x.from(-1), BAD);
        due("2", x.from(2), BAD);
        due("none was kept", x.from(0), NO);
        due("NO changes nothing", x.count(0), 1);
        x.from(1);
        due("an image is no image's", x.from(0), NO);
        x.image(0);
        due("kept", x.from(0), 1);
    }

    private static void countAnswer() {
        promise(24);
        says("How many: 0 GIVERS, 1 WORKS, 2 coins given, 3 all COIN.");
        GiftMatch x = scene(5, 12, 3, 0);
        due("GIVERS", x.count(0), 5);
        due("WORKS", x.count(1), 3);
        due("none given", x.count(2), 0);
        due("all COIN", x.count(3), 60);
        for (int g = 0; g < 5; g++) {
            give(x, g, 3, 4, 5);
        }
        due("all given", x.count(2), 60);
        says("BAD.");
        due("-1", x.count(-1), BAD);
        due("4", x.count(4), BAD);
    }

    private static long hashed(int... values) {
        long h = 461;
        for (int v : values) {
            h = 31 * h + v;
        }
        return h;
    }

    private static void digestAnswer() {
        promise(25);
        says("h = 461; then h = 31 h + v for each v: count(0) to count(3);");
        due("of a new object", new GiftMatch().digest(), hashed(0, 0, 0, 0, 10, 0, 40, 0, 0, 0, 0, 0));
        says("of GIVERS COIN, for each of 3 WORKS FIRST, FALL, GIFT;");
        due("a GIVER without WORKS", scene(1, 7, 0, 0).digest(),
            hashed(1, 0, 0, 7, 7, 0, 0, 0, 0, 0, 0, 0, 0, 0, 10, 0, 40, 0, 0, 0, 0, 70));
        says("of WORKS BAR, amount(.., 0) to (.., 3);");
        due("WORKS without GIVERS", scene(0, 0, 2, 9).digest(),
            hashed(0, 2, 0, 0, 9, 0, 0, 0, 0, 9, 0, 0, 0, 0, 10, 0, 40, 0, 0, 0, 0, 0));
        GiftMatch x = scene(2, 7, 2, 3);
        x.worth(0, 1, 20, 5);
        x.worth(1, 0, 200, 50);
        x.give(0, 0, 4);
        x.give(1, 1, 2);
        write(x, 2, "s*9");
        x.set(0, 99);
        x.set(1, 2);
        x.set(2, 27);
        x.set(3, 1);
        says("KEEP, THE RULE, THE PURSE, PARTED; of RULES how many characters, these; has(NONE).");
        due("of all", x.digest(), hashed(2, 2, 6, 14,
            7, 0, 0, 4, 20, 5, 0, 0, 0, 0,
            7, 200, 50, 0, 0, 0, 2, 0, 0, 0,
            3, 4, 36, 27, 31, 3, 2, 18, 0, 2,
            99, 2, 27, 1, 0, 0, 3, 's', '*', '9', 500 + 99 * 3 + 99 * 5));
        GiftMatch y = new GiftMatch();
        y.write(0, 0);
        y.write(0, 127);
        y.write(1, 'z');
        due("characters that can not stand", y.digest(), hashed(0, 0, 0, 0, 10, 0, 40, 0, 2, 0, 127, 1, 'z', 0, 0));
        y.erase(0);
        due("erased ones are gone", y.digest(), hashed(0, 0, 0, 0, 10, 0, 40, 0, 0, 1, 'z', 0, 0));
    }
}
