import java.io.IOException;
import java.lang.reflect.Method;
import java.lang.reflect.Modifier;
import java.nio.charset.StandardCharsets;
import java.nio.file.Files;
import java.nio.file.Path;
import java.util.Arrays;
import java.util.Comparator;

/**
 * The boundary cases that the document's Terms name, a test for each sentence: its name begins with the part of the Terms
 * (one, two, three), and says() holds the sentence. main runs every method that begins so.
 */
public final class TermsBoundaryTests {
    private static final int NONE = FedStatues.NONE;
    private static final String S = "statue s at 0;";
    private static final String D = "dish d costs 1 warm 1;";
    private static final String E = "eater e hunger 1 at 0;";
    private static final String[] OWN_WORDS = ("statue at dish costs warm deed eater hunger likes leaves draws fund grows pace siege day told rank off left"
        + " if or and not all min max").split(" ");
    private static final String DOCUMENT = document();
    private static int wrong = 0;
    private static int asked = 0;
    private static int sentences = 0;
    private static String sentence = "";

    // ---- what the tests ask with

    private static void says(String where, String... words) {
        sentences++;
        sentence = where + ": " + String.join(" .. ", words);
        for (String part : words) {
            due("whether the document has \"" + part + "\"", DOCUMENT.isEmpty() || DOCUMENT.contains(part), true);
        }
    }

    private static String document() {
        try {
            return Files.readString(Path.of("../shared/DOC.md")).replaceAll("\\s+", " ");
        } catch (IOException none) {
            return "";
        }
    }

    private static void due(String what, long got, long want) {
        asked++;
        if (got != want) {
            wrong++;
            System.out.println("[" + sentence + "] " + what + " answered " + got + ", due is " + want);
        }
    }

    private static void due(String what, boolean got, boolean want) {
        due(what, got ? 1 : 0, want ? 1 : 0);
    }

    private static void tape(FedStatues x, byte[] bytes) {
        x.end(0);
        for (int i = 0; i < bytes.length; i += 20) {
            int[] n = new int[5];
            for (int k = 0; k < 20; k++) {
                int b = i + k < bytes.length ? bytes[i + k] & 255 : 32;
                n[k / 4] = n[k / 4] << 8 | b;
            }
            x.feed(n[0], n[1], n[2], n[3], n[4]);
        }
        x.end(bytes.length);
    }

    private static int city(FedStatues x, String text) {
        tape(x, text.getBytes(StandardCharsets.ISO_8859_1));
        return x.city();
    }

    private static FedStatues of(String text) {
        FedStatues x = new FedStatues();
        due("city of " + text, city(x, text) >= 0, true);
        return x;
    }

    private static void fault(String text, int kind, int place) {
        FedStatues x = new FedStatues();
        due("city of " + text, city(x, text), NONE);
        due("fault(0) of " + text, x.fault(0), kind);
        due("fault(1) of " + text, x.fault(1), place);
    }

    /** The fault is right behind the first part. */
    private static void fault(int kind, String ahead, String behind) {
        fault(ahead + behind, kind, ahead.length());
    }

    private static void good(String text, int statements) {
        FedStatues x = new FedStatues();
        due("city of " + text, city(x, text), statements);
        due("fault(0) of " + text, x.fault(0), 0);
        due("fault(1) of " + text, x.fault(1), NONE);
    }

    private static String many(int n, String each) {
        StringBuilder made = new StringBuilder();
        for (int i = 0; i < n; i++) {
            made.append(each.replace('#', (char) ('a' + i)));
        }
        return made.toString();
    }

    private static byte[] image(int day, int coins, int... portions) {
        byte[] made = new byte[6 + portions.length];
        made[0] = (byte) (day >> 8);
        made[1] = (byte) day;
        made[2] = (byte) (coins >> 16);
        made[3] = (byte) (coins >> 8);
        made[4] = (byte) coins;
        for (int i = 0; i < portions.length; i++) {
            made[5 + i] = (byte) portions[i];
        }
        int c = 131;
        for (int i = 0; i < made.length - 1; i++) {
            c = (5 * c + (made[i] & 255)) % 251;
        }
        made[made.length - 1] = (byte) c;
        return made;
    }

    private static void on(FedStatues x, int day, int coins, int... portions) {
        tape(x, image(day, coins, portions));
        due("on()", x.on(), true);
    }

    private static int seen(FedStatues x, int... row) {
        byte[] made = new byte[row.length];
        for (int i = 0; i < row.length; i++) {
            made[i] = (byte) row[i];
        }
        tape(x, made);
        return x.seen();
    }

    private static long nextSeed(long x) {
        return (1103515245L * x + 12345L) % 2147483648L;
    }

    private static int drawOf(long x, int m) {
        return (int) (x / 64 % m);
    }

    // ---- I. the text

    private static void one01Statements() {
        says("Terms I", "A CITY is a text: { STATEMENT ; } (80 at most)");
        good("", 0);
        good(many(1, "pace 1;"), 1);
        good(many(79, "pace 1;"), 79);
        good(many(80, "pace 1;"), 80);
        fault(6, many(80, "pace 1;"), "pace 1;");
        fault(1, many(79, "pace 1;") + "pace 1", "");
    }

    private static void one02Places() {
        says("Terms I", "statue NAME at N (0 .. 99, its PLACE in the street; 8 STATUES)");
        due("place 0", of("statue a at 0;").statue(0, 0), 0);
        due("place 99", of("statue a at 99;").statue(0, 0), 99);
        due("place 0099", of("statue a at 0099;").statue(0, 0), 99);
        fault(4, "statue a at ", "100;");
        fault(4, "statue a at ", "9999;");
        fault(1, "statue a at ", "-1;");
        good(many(8, "statue s# at 1;"), 8);
        fault(6, many(8, "statue s# at 1;"), "statue z at 1;");
        due("eight", of(many(8, "statue s# at 1;")).has(0), 8);
        due("the eighth", of(many(8, "statue s# at 1;")).letter(0, 7, 1), 8);
    }

    private static void one03Dishes() {
        says("Terms I", "dish NAME costs N warm N (0 .. 99 coins a portion, 1 .. 999 minutes; 8 DISHES)");
        due("costs 0", of("dish d costs 0 warm 1;").dish(0, 0), 0);
        due("warm 1", of("dish d costs 0 warm 1;").dish(0, 1), 1);
        due("costs 99", of("dish d costs 99 warm 999;").dish(0, 0), 99);
        due("warm 999", of("dish d costs 99 warm 999;").dish(0, 1), 999);
        fault(4, "dish d costs ", "100 warm 1;");
        fault(4, "dish d costs 1 warm ", "0;");
        fault(4, "dish d costs 1 warm ", "1000;");
        good(many(8, "dish d# costs 1 warm 1;"), 8);
        fault(6, many(8, "dish d# costs 1 warm 1;"), "dish z costs 1 warm 1;");
        due("eight", of(many(8, "dish d# costs 1 warm 1;")).has(1), 8);
    }

    private static void one04Deeds() {
        says("Terms I", "deed NAME NAME N (a STATUE, a DISH, not told together already, 1 .. 9 portions a day; 16 DEEDS)");
        due("1", of(S + D + "deed s d 1;").deed(0, 2), 1);
        due("9", of(S + D + "deed s d 9;").deed(0, 2), 9);
        fault(4, S + D + "deed s d ", "0;");
        fault(4, S + D + "deed s d ", "10;");
        fault(3, S + D + "deed ", "d s 1;");
        fault(3, S + D + "deed s ", "s 1;");
        fault(3, S + D + E + "deed ", "e d 1;");
        fault(3, S + D + E + "deed s ", "e 1;");
        fault(3, S + D + "deed s d 1;deed s ", "d 2;");
        good(S + "statue t at 0;" + D + "dish f costs 1 warm 1;deed s d 1;deed s f 1;deed t d 1;deed t f 1;", 8);
        String told = many(2, "statue s# at 1;") + many(8, "dish d# costs 1 warm 1;") + many(8, "deed sa d# 1;");
        String full = told + many(8, "deed sb d# 1;");
        good(full, 26);
        due("sixteen", of(full).has(2), 16);
        due("the sixteenth", of(full).deed(15, 1), 7);
        fault(6, S + full, "deed s da 1;");
        // one too many comes ahead of a dish told already
        fault(6, full, "deed sa da 1;");
    }

    private static void one05Eaters() {
        says("Terms I", "eater NAME hunger N at N (1 .. 20 portions a day; 0 .. 99, where he sleeps; 8 EATERS)");
        due("hunger 1", of("eater e hunger 1 at 0;").eater(0, 0), 1);
        due("sleeps 0", of("eater e hunger 1 at 0;").eater(0, 1), 0);
        due("hunger 20", of("eater e hunger 20 at 99;").eater(0, 0), 20);
        due("sleeps 99", of("eater e hunger 20 at 99;").eater(0, 1), 99);
        fault(4, "eater e hunger ", "0 at 0;");
        fault(4, "eater e hunger ", "21 at 0;");
        fault(4, "eater e hunger 1 at ", "100;");
        good(many(8, "eater e# hunger 1 at 0;"), 8);
        fault(6, many(8, "eater e# hunger 1 at 0;"), "eater z hunger 1 at 0;");
        due("eight", of(many(8, "eater e# hunger 1 at 0;")).has(3), 8);
    }

    private static void one06Likes() {
        says("Terms I", "likes NAME NAME N (an EATER, a DISH, 0 .. 99; the last one of these two counts; 10 without)");
        due("without", of(D + E).eater(0, 10), 10);
        due("0", of(D + E + "likes e d 0;").eater(0, 10), 0);
        due("99", of(D + E + "likes e d 99;").eater(0, 10), 99);
        due("the last one", of(D + E + "likes e d 99;likes e d 98;likes e d 3;").eater(0, 10), 3);
        FedStatues x = of(D + E + "dish f costs 1 warm 1;eater g hunger 1 at 0;likes e d 5;likes g f 6;likes e d 7;likes g d 8;");
        int[] want = {7, 10, 8, 6};
        for (int i = 0; i < 4; i++) {
            due("of these two " + i, x.eater(i / 2, 10 + i % 2), want[i]);
        }
        fault(4, D + E + "likes e d ", "100;");
        fault(3, D + E + "likes ", "d d 1;");
        fault(3, D + E + "likes e ", "e 1;");
        fault(3, S + D + E + "likes ", "s d 1;");
        fault(3, S + D + E + "likes e ", "s 1;");
        good(D + E + "likes e d 1;".repeat(78), 80);
    }

    private static void one07OneSumEach() {
        says("Terms I", "leaves SUM, draws SUM (one each)");
        good("leaves 1;draws 1;", 2);
        good("draws 1;leaves 1;", 2);
        fault(6, "leaves 1;", "leaves 1;");
        fault(6, "draws 1;leaves 2;", "draws 1;");
        // a text with a fault told none
        FedStatues x = new FedStatues();
        due("a fault behind leaves", city(x, "leaves 1;leaves"), NONE);
        due("leaves anew", city(x, S + D + "deed s d 5;leaves 2;"), 4);
        due("the new one", x.plate(0, 0), 2);
        due("without again", city(x, S + D + "deed s d 5;"), 3);
        due("as told without", x.plate(0, 0), 5);
    }

    private static void one08FundPaceSiege() {
        says("Terms I", "fund N grows N (0 .. 9999 coins, 0 .. 100 of a hundred a day), pace N (1 .. 20 minutes for one step of the street), siege N (0 .. 100)");
        due("fund 0", of("fund 0 grows 0;").has(5), 0);
        due("grows 0", of("fund 0 grows 0;").has(6), 0);
        due("fund 9999", of("fund 9999 grows 100;").has(5), 9999);
        due("grows 100", of("fund 9999 grows 100;").has(6), 100);
        fault(4, "fund 0 grows ", "101;");
        fault(1, "fund 1000", "0 grows 1;");
        due("pace 1", of("pace 1;").has(7), 1);
        due("pace 20", of("pace 20;").has(7), 20);
        fault(4, "pace ", "0;");
        fault(4, "pace ", "21;");
        due("siege 0", of("siege 0;").has(8), 0);
        due("siege 100", of("siege 100;").has(8), 100);
        fault(4, "siege ", "101;");
    }

    private static void one09LastOfEach() {
        says("Terms I", "the last one of each counts (100 and 0, 1, 0 without)");
        FedStatues x = of("fund 1 grows 2;pace 3;siege 4;siege 0;pace 1;fund 0 grows 0;");
        int[] last = {0, 0, 1, 0};
        FedStatues y = of("");
        int[] without = {100, 0, 1, 0};
        for (int i = 0; i < 4; i++) {
            due("last has(" + (5 + i) + ")", x.has(5 + i), last[i]);
            due("without has(" + (5 + i) + ")", y.has(5 + i), without[i]);
        }
        due("after a city with all", city(x, "fund 5 grows 6;pace 7;siege 8;"), 3);
        due("without again", city(x, ""), 0);
        for (int i = 0; i < 4; i++) {
            due("again without has(" + (5 + i) + ")", x.has(5 + i), without[i]);
        }
        for (int cities = 1; cities <= 3; cities++) {
            FedStatues z = new FedStatues();
            for (int i = 0; i < cities; i++) {
                due("a city with all", city(z, "fund 5 grows 6;pace 7;siege 8;" + S + D + "deed s d 1;" + E + "likes e d 5;leaves 1;draws 1;"), 10);
            }
            due("a fault between", city(z, "fund 15 grows 16;pace 17;siege 18;#"), NONE);
            due("nothing behind " + cities, city(z, ""), 0);
            for (int i = 0; i < 4; i++) {
                due("behind " + cities + " without has(" + (5 + i) + ")", z.has(5 + i), without[i]);
                due("behind " + cities + " none of has(" + i + ")", z.has(i), 0);
            }
        }
    }

    // ---- I. sums

    /** Whether a sum gives just so much: the deed leaves 7 where it does, 2 where not. */
    private static void sum(String sum, int want) {
        String number = want < 0 ? "0-(" + thousands(-want) + ")" : thousands(want);
        FedStatues x = of(S + D + "deed s d 9;leaves if(" + sum + "=" + number + ",7,2);");
        due(sum + " is " + want, x.plate(0, 0), 7);
    }

    private static String thousands(int n) {
        return n <= 9999 ? String.valueOf(n) : n / 1000 + "*1000+" + n % 1000;
    }

    private static void one10FromTheLeft() {
        says("Terms I", "All from the left on");
        sum("9-4-3", 2);
        sum("9-4+3", 8);
        sum("100/10/5", 2);
        sum("100/10*5", 50);
        sum("17%10%4", 3);
        sum("2*7%5", 4);
        sum("7%5*2", 4);
        sum("2+3*4", 14);
        sum("2*3+4", 10);
        sum("20-6/3", 18);
    }

    private static void one11Floor() {
        says("Terms I", "/ gives the greatest whole number not above");
        sum("7/2", 3);
        sum("6/2", 3);
        sum("(0-7)/2", -4);
        sum("(0-6)/2", -3);
        sum("7/(0-2)", -4);
        sum("(0-7)/(0-2)", 3);
        sum("0/5", 0);
        sum("1/2", 0);
        sum("(0-1)/9999", -1);
    }

    private static void one12Left() {
        says("Terms I", "% what is left (a less b times that)");
        sum("7%2", 1);
        sum("6%2", 0);
        sum("(0-7)%2", 1);
        sum("7%(0-2)", -1);
        sum("(0-7)%(0-2)", -1);
        sum("(0-1)%10", 9);
        sum("1%(0-10)", -9);
        sum("0%5", 0);
    }

    private static void one13ByNothing() {
        says("Terms I", "by 0 both give 0");
        sum("7/0", 0);
        sum("7%0", 0);
        sum("(0-7)/0", 0);
        sum("(0-7)%0", 0);
        sum("0/0", 0);
        sum("0%0", 0);
        sum("5/(3-3)+1", 1);
        sum("7%(3-3)+1", 1);
    }

    private static void one14AboveAMillion() {
        says("Terms I", "each result above 10 to the 6 is that");
        sum("1000*1000", 1000000);
        sum("1000*1000-1", 999999);
        sum("1000*1000+1", 1000000);
        sum("1001*1000", 1000000);
        sum("9999*9999", 1000000);
        sum("9999*9999*9999*9999", 1000000);
        sum("1000*1000+1-1", 999999);
        sum("9999*9999-1000*1000", 0);
        sum("0-(0-9999)*9999", 1000000);
        sum("(0-9999)*(0-9999)", 1000000);
        sum("1000*1000-(0-1)", 1000000);
    }

    private static void one15BelowAMillion() {
        says("Terms I", "below -10 to the 6 likewise");
        sum("0-1000*1000", -1000000);
        sum("0-1000*1000+1", -999999);
        sum("0-1000*1000-1", -1000000);
        sum("(0-9999)*9999", -1000000);
        sum("9999*(0-9999)", -1000000);
        sum("0-1000*1000-1+1", -999999);
        sum("0-1000*1000+(0-1)", -1000000);
        sum("(0-1000*1000)*(0-1)", 1000000);
    }

    private static void one16Tests() {
        says("Terms I", "the first SUM where the TEST holds, else the second one", "SIGN < or > or =");
        for (int a = 0; a <= 2; a++) {
            sum("if(" + a + "<1,5,6)", a < 1 ? 5 : 6);
            sum("if(" + a + ">1,5,6)", a > 1 ? 5 : 6);
            sum("if(" + a + "=1,5,6)", a == 1 ? 5 : 6);
        }
        sum("min(3,3)", 3);
        sum("min(3,2)", 2);
        sum("max(3,2)", 3);
        sum("max(0-3,0-2)", -2);
        sum("if(all,5,6)+1", 6);
        sum("2*if(not all,5,6)-1", 11);
        sum("min(if(1<2,3,4),if(1>2,1,8))*10", 30);
        for (String held : new String[] {"all", "1<2", "2>1", "1=1", "all and all", "all or all", "[all]", "not not all", "1<2 and 2>1", "1=2 or 1=1"}) {
            sum("if(" + held + ",5,6)", 5);
            sum("if(not[" + held + "],5,6)", 6);
            sum("if(not not[" + held + "],5,6)", 5);
        }
        // or of boths; the second of each may fail
        String[] truth = {"not all", "all"};
        for (int i = 0; i < 8; i++) {
            boolean a = (i & 4) != 0;
            boolean b = (i & 2) != 0;
            boolean c = (i & 1) != 0;
            String text = truth[a ? 1 : 0] + " or " + truth[b ? 1 : 0] + " and " + truth[c ? 1 : 0];
            sum("if(" + text + ",5,6)", a || b && c ? 5 : 6);
            text = truth[a ? 1 : 0] + " and " + truth[b ? 1 : 0] + " or " + truth[c ? 1 : 0];
            sum("if(" + text + ",5,6)", a && b || c ? 5 : 6);
            sum("if(not[" + text + "],5,6)", a && b || c ? 6 : 5);
        }
    }

    private static void one17FactsOfLeaves() {
        says("Terms I", "The DAY; coins in the fund as it is then; portions of the DEED as told, coins for one, its number from 0 on, 1 in a siege, else 0");
        FedStatues x = of(S + D + "dish f costs 0 warm 1;deed s d 9;deed s f 9;fund 8 grows 0;leaves day*3+rank;");
        due("day 0, rank 0", x.plate(0, 0), 0);
        due("day 0, rank 1", x.plate(1, 0), 1);
        x.days(1);
        due("day 1, rank 0", x.plate(0, 0), 3);
        due("day 1, rank 1", x.plate(1, 0), 4);
        FedStatues y = of(S + D + "dish f costs 0 warm 1;deed s d 3;deed s f 9;fund 8 grows 0;leaves fund;");
        due("8 coins, 3 told", y.plate(0, 0), 3);
        due("5 coins then", y.plate(1, 0), 5);
        FedStatues z = of(S + D + "deed s d 3;leaves told-1;");
        due("told", z.plate(0, 0), 2);
        z.change(0, 9);
        due("told now", z.plate(0, 0), 8);
        due("costs", of(S + "dish d costs 7 warm 1;deed s d 9;leaves costs;").plate(0, 0), 7);
        due("no siege today", of(S + D + "deed s d 3;siege 100;leaves 1+siege;").plate(0, 0), 1);
        FedStatues sieged = of(S + D + "eater e hunger 9 at 0;deed s d 3;siege 100;leaves 1+siege;");
        sieged.chance(1);
        due("1 in a siege", sieged.has(10), 2);
    }

    private static void one18FactsOfDraws() {
        says("Terms I", "how he likes the DISH, how many steps the STATUE is off from where he is, how many portions he still wants, how many are on that plate");
        String town = "statue s at 5;" + D + "deed s d 4;fund 9 grows 0;";
        due("likes 3 draws 3", of(town + "eater e hunger 9 at 5;likes e d 3;draws likes-2;").meal(0, 1), 4);
        due("likes 2 draws nothing", of(town + "eater e hunger 9 at 5;likes e d 2;draws likes-2;").meal(0, 1), 0);
        due("5 off from below", of(town + "eater e hunger 1 at 0;draws if(off=5,1,0);").meal(0, 1), 1);
        due("4 off from above", of(town + "eater e hunger 1 at 9;draws if(off=4,1,0);").meal(0, 1), 1);
        due("0 off where he has gone", of(town + "eater e hunger 9 at 0;draws if(off=5,1,0);").meal(0, 1), 1);
        due("hunger 9, 8, 7", of(town + "eater e hunger 9 at 5;draws hunger-7;").meal(0, 1), 2);
        due("left 4, 3, 2", of(town + "eater e hunger 9 at 5;draws left-2;").meal(0, 1), 2);
        due("5 coins, as they are then", of(town + "eater e hunger 1 at 5;draws if(fund=5,1,0);").meal(0, 1), 1);
        due("day 0", of(town + "eater e hunger 1 at 5;draws if(day=0,1,0);").meal(0, 1), 1);
    }

    // ---- I. names, numbers, blanks

    private static void one19Parts() {
        says("Terms I", "PART: N; day; fund; in leaves: told; costs; rank; siege; in draws: likes; off; hunger; left; ( SUM ) ; min ( SUM , SUM ) ; max ( SUM , SUM ) ; if ( TEST , SUM , SUM )");
        String[] both = {"0", "9999", "day", "fund", "(1)", "min(1,2)", "max(1,2)", "if(all,1,2)"};
        String[] inLeaves = {"told", "costs", "rank", "siege"};
        String[] inDraws = {"likes", "off", "hunger", "left"};
        String[] inNone = {"all", "not all", "[all]", "1=1", "", ")", "()", "-1", "+1", "*1", "min", "min(1)", "max(1,2,3)", "if(1,2,3)", "if(all,1)", "at", "nosuch", "1+", "1 1"};
        for (String part : both) {
            good("leaves " + part + ";draws " + part + ";", 2);
        }
        for (int i = 0; i < 4; i++) {
            good("leaves " + inLeaves[i] + ";draws " + inDraws[i] + ";", 2);
            fault(1, "leaves ", inDraws[i] + ";");
            fault(1, "draws ", inLeaves[i] + ";");
            fault(1, "leaves min(1,", inDraws[i] + ");");
            fault(1, "draws if(1=", inLeaves[i] + ",1,2);");
        }
        for (String part : inNone) {
            due("leaves " + part, city(new FedStatues(), "leaves " + part + ";"), NONE);
            due("draws " + part, city(new FedStatues(), "draws " + part + ";"), NONE);
        }
    }

    private static void one20Names() {
        says("Terms I", "NAMES: 1 to 6 letters");
        good("statue a at 0;", 1);
        good("statue abcdef at 0;", 1);
        good("statue z at 0;dish zzzzzz costs 0 warm 1;", 2);
        fault(1, "statue abcdef", "g at 0;");
        fault(1, "statue ", "at 0;");
        fault(1, "statue ", "1 at 0;");
        fault(1, "statue ", "A at 0;");
        fault(1, "statue a", "B at 0;");
        fault(1, "statue ", "` at 0;");
        fault(1, "statue ", "{ at 0;");
    }

    private static void one21UnlikeNames() {
        says("Terms I", "unlike ones (of all sorts)");
        String[] told = {S, "dish s costs 1 warm 1;", "eater s hunger 1 at 0;"};
        String[] word = {"statue ", "dish ", "eater "};
        for (String first : told) {
            for (String again : word) {
                fault(2, first + again, "s");
            }
        }
        good("statue a at 0;statue aa at 0;dish aaa costs 1 warm 1;dish ab costs 1 warm 1;eater b hunger 1 at 0;eater ba hunger 1 at 0;", 6);
        good("statue aaaaaa at 0;statue aaaaab at 0;statue aaaaa at 0;statue baaaaa at 0;", 4);
    }

    private static void one22ToldAhead() {
        says("Terms I", "told ahead of where they are asked");
        fault(3, D + "deed ", "s d 1;" + S);
        fault(3, S + "deed s ", "d 1;" + D);
        fault(3, D + "likes ", "e d 1;" + E);
        fault(3, E + "likes e ", "d 1;" + D);
        // a city before does not tell them
        FedStatues x = of(S + D + E);
        due("names of the city before", city(x, "deed s d 1;"), NONE);
        due("they are none", x.fault(0), 3);
        due("and may be given again", city(x, "dish s costs 1 warm 1;statue d at 0;"), 2);
        due("nor does a text with a fault", city(x, "statue q at 0;statue"), NONE);
        due("so q may be given", city(x, "dish q costs 1 warm 1;"), 1);
    }

    private static void one23Numbers() {
        says("Terms I", "NUMBERS: 1 to 4 digits");
        due("one", of("fund 0 grows 1;").has(6), 1);
        due("four", of("fund 0000 grows 0001;").has(6), 1);
        due("9999", of("fund 9999 grows 0;").has(5), 9999);
        fault(1, "fund 9999", "9 grows 0;");
        fault(1, "fund 0000", "0 grows 0;");
        fault(1, "leaves 1234", "5;");
        good("leaves 9999;", 1);
        fault(1, "pace ", "/1;");
        fault(1, "pace ", ":1;");
    }

    private static void one24Blanks() {
        says("Terms I", "Blanks (10, 32) are where one likes (words and numbers side by side need one)");
        good(" \n pace \n\n 5 \n ; \n ", 1);
        good("leaves \n min \n ( \n 1 \n , \n told \n ) \n + \n 2 \n ;", 1);
        good("leaves if(all,1,2)*3-min(4,5);", 1);
        good("leaves if([all]or[all]and[1=1],1,2);", 1);
        fault(1, "pace", "5;");
        fault(1, "statue a at", "5;");
        fault(1, "dish d costs 1", "warm 1;");
        fault(1, "leaves 1", "told;");
        fault(1, "leaves if(not", "1=1,1,2);");
        for (int octet = 0; octet < 256; octet++) {
            boolean blank = octet == 10 || octet == 32;
            FedStatues x = new FedStatues();
            due("city with " + octet + " ahead", city(x, (char) octet + "pace 5;"), blank ? 1 : NONE);
            due("its place", x.fault(1), blank ? NONE : 0);
        }
    }

    private static void one25OwnWords() {
        says("Terms I", "OWN WORDS, which no NAME is", "an OWN WORD where a NAME must be");
        due("own words", OWN_WORDS.length, 27);
        for (String own : OWN_WORDS) {
            fault(1, "statue ", own + " at 0;");
            fault(1, "dish ", own + " costs 0 warm 1;");
            fault(1, "eater ", own + " hunger 1 at 0;");
            fault(1, "deed ", own);
            fault(1, S + "deed s ", own);
            fault(1, "likes ", own);
            fault(1, E + "likes e ", own);
            String more = own.length() < 6 ? own + "x" : own.substring(0, 5) + "x";
            good("statue " + more + " at 0;", 1);
            good("statue " + (own.length() == 2 ? own.substring(0, 1) : own.substring(1)) + "q at 0;", 1);
        }
    }

    // ---- I. faults

    private static void one30FirstByte() {
        says("Terms I, fault 1", "the first byte with which no CITY goes on (words and numbers whole, at their first byte");
        fault(1, "", "q");
        fault(1, "", "stat a at 0;");
        fault(1, "", "statu");
        fault(1, "statue a ", "att 0;");
        fault(1, "statue a at 1 ", "23;");
        fault(1, "dish d costs 1 ", "warn 1;");
        fault(1, "pace 1", ",");
        fault(1, "pace 1;", ";");
        fault(1, "leaves 1+", "+1;");
        fault(1, "leaves 1 ", "1;");
        fault(1, "leaves ", "likes;");
        fault(1, "leaves ", "off;");
        fault(1, "leaves ", "hunger;");
        fault(1, "leaves ", "left;");
        fault(1, "draws ", "told;");
        fault(1, "draws ", "costs;");
        fault(1, "draws ", "rank;");
        fault(1, "draws ", "siege;");
        fault(1, "leaves ", "all;");
        fault(1, "leaves ", "not all;");
        fault(1, "leaves ", "[1];");
        fault(1, "leaves if(1", ",2,3);");
        fault(1, "leaves if((1", "=1),2,3);");
        fault(1, "leaves if(all", "=1,2,3);");
        fault(1, "leaves 1", "=1;");
        fault(1, "leaves (1", ",2);");
    }

    private static void one31EndsTooSoon() {
        says("Terms I, fault 1", "at the text's length, if it ends too soon");
        String text = "statue s at 0;dish d costs 1 warm 1;deed s d 1;eater e hunger 1 at 0;likes e d 1;leaves min(1,2)*(3);draws if(not all,1,2);fund 1 grows 1;";
        for (int n = 1; n <= text.length(); n++) {
            String cut = text.substring(0, n);
            char last = cut.charAt(n - 1);
            boolean whole = last == ';';
            FedStatues x = new FedStatues();
            int statements = (int) cut.chars().filter(c -> c == ';').count();
            due("cut at " + n, city(x, cut), whole ? statements : NONE);
            boolean inWord = Character.isLetter(last) && n < text.length() && Character.isLetter(text.charAt(n));
            if (!whole && !inWord) {
                due("cut at " + n + ", fault", x.fault(0), 1);
                due("cut at " + n + ", place", x.fault(1), n);
            }
        }
        fault("pace 1 \n ", 1, 9);
        fault("statue  ", 1, 8);
    }

    private static void one32SeventhLetter() {
        says("Terms I, fault 1", "a 7th letter, a 5th digit at itself, whatever may stand there");
        fault(1, "statue", "s a at 0;");
        fault(1, "abcdef", "ghijkl");
        fault(1, "statue abcdef", "g at 0;");
        fault(1, "statue a atatat", "a 0;");
        fault(1, "pace abcdef", "g;");
        fault(1, "pace 1234", "5;");
        fault(1, "statue 1234", "5 at 0;");
        fault(1, "1234", "5");
        fault(1, "deed nosuch", "x");
        fault(1, "statue statue", "s at 0;");
        fault(1, "leaves abcdef", "g;");
        fault(1, "leaves 1 1234", "5;");
        // six letters, four digits are none of these
        fault(1, "", "abcdef ghijklm");
        fault(4, "pace ", "1234;");
        fault(3, "deed ", "nosuch x");
    }

    private static void one33NameGivenAlready() {
        says("Terms I, fault 2", "a NAME to be given that is there already, at its first byte");
        fault(2, S + "statue \n ", "s at 0;");
        fault(2, S + "dish ", "s costs 100 warm 0;");
        fault(2, S + "eater ", "s");
        fault(2, "statue abcdef at 0;statue ", "abcdef at 0;");
        // a fault ahead of it comes first
        fault(4, "statue s at ", "100;statue s at 0;");
    }

    private static void one34NoneOfWhatIsAsked() {
        says("Terms I, fault 3", "a NAME that is none of what is asked, at its first byte, a DISH told for that STATUE already, too");
        fault(3, "deed ", "s");
        fault(3, S + "deed s ", "q 100;");
        fault(3, E + "deed ", "e");
        fault(3, "likes ", "e");
        fault(3, S + D + "deed s d 1;deed s \n", "d 100;");
        fault(3, S + "statue t at 0;" + D + "deed s d 1;deed t d 2;deed t ", "d 3;");
        fault(3, S + D + "dish f costs 1 warm 1;deed s d 1;deed s f 2;deed s ", "d 3;");
        fault(1, S + D + "deed s d 1;deed s ", "1 d;");
    }

    private static void one35NumberThatCannotBe() {
        says("Terms I, fault 4", "a NUMBER that can't be, at its first byte");
        fault(4, "pace \n ", "21 ;");
        fault(4, "pace ", "0021");
        fault(4, "pace ", "99x");
        fault(4, "dish d costs ", "100 cold 1;");
        fault(4, "eater e hunger ", "0 to 0;");
        good("leaves 0/0%0;", 1);
        good("leaves 9999*9999;", 1);
    }

    private static void one36EighthOpen() {
        says("Terms I, fault 5", "the 8th ( [ not that is open at once (not until its FACT ends), at it");
        good("leaves " + "(".repeat(7) + "1" + ")".repeat(7) + ";", 1);
        fault(5, "leaves " + "(".repeat(7), "(1");
        fault(5, "leaves " + "( ".repeat(7), "(");
        good("leaves " + "max(1,".repeat(7) + "1" + ")".repeat(7) + ";", 1);
        fault(5, "leaves " + "max(1,".repeat(7) + "max", "(1,1)");
        fault(5, "leaves " + "max(1,".repeat(7), "(1)");
        good("leaves if(" + "[".repeat(6) + "all" + "]".repeat(6) + ",1,2);", 1);
        fault(5, "leaves if(" + "[".repeat(6), "[all");
        good("leaves if(" + "not ".repeat(6) + "all,1,2);", 1);
        fault(5, "leaves if(" + "not ".repeat(6), "not all");
        good("draws if(not[not[not(1+2)=3]],1,2);", 1);
        fault(5, "draws if(not[not[not(", "(1+2))=3]],1,2);");
        for (String each : new String[] {"min(@,1)", "min(1,@)", "max(@,1)", "max(1,@)", "if(all,@,1)", "if(all,1,@)", "if(@=1,1,2)", "if(1=@,1,2)"}) {
            good("leaves " + each.replace("@", "((((((1))))))") + ";", 1);
            fault(5, "leaves " + each.substring(0, each.indexOf('@')) + "((((((", "(1");
        }
        for (String each : new String[] {"if([all and @=1],1,2)", "if([all or @=1],1,2)", "if(not @<1,1,2)", "(min(1,@))", "max(1,(2+@))", "(3*(@))"}) {
            good("leaves " + each.replace("@", "(((((1)))))") + ";", 1);
            fault(5, "leaves " + each.substring(0, each.indexOf('@')) + "(((((", "(1");
        }
        fault(5, "leaves 1+" + "(".repeat(7), "(1");
        fault(5, "leaves 1*" + "(".repeat(7), "(1");
        fault(5, "leaves if(all or " + "not ".repeat(6), "not all");
        fault(5, "leaves if(all and " + "not ".repeat(6), "not all");
        fault(5, "leaves if(all and [" + "not ".repeat(5), "not all");
        // closed ones are open no more
        good("leaves " + "(".repeat(7) + "1" + ")".repeat(7) + "+" + "(".repeat(7) + "1" + ")".repeat(7) + ";", 1);
        good("leaves if(" + "not ".repeat(6) + "all and " + "not ".repeat(6) + "1=1 or " + "not ".repeat(6) + "all,(((((1))))),2);", 1);
        good("leaves if(not all,((((((1)))))),2);", 1);
        fault(5, "leaves if(not all,((((((", "(1");
        good("leaves if(not 1=(((((1))))),1,2);", 1);
        fault(5, "leaves if(not 1=(((((", "(1");
        // what may not stand there is fault 1 however many are open
        fault(1, "leaves " + "(".repeat(7), "[");
        fault(1, "leaves " + "(".repeat(7) + "1", "(");
        fault(1, "leaves " + "(".repeat(7), "not");
    }

    private static void one37OneTooMany() {
        says("Terms I, fault 6", "one too many of a kind of STATEMENT (a second leaves, draws, too), or the 81st STATEMENT (whatever it is), at its first byte");
        fault(6, many(8, "statue s# at 1;") + "\n ", "statue");
        fault(6, many(8, "statue s# at 1;"), "statue sa at 100;");
        fault(6, many(8, "dish s# costs 1 warm 1;"), "dish");
        fault(6, many(8, "eater s# hunger 1 at 1;"), "eater 5");
        fault(6, many(2, "statue s# at 1;") + many(8, "dish d# costs 1 warm 1;") + many(8, "deed sa d# 1;") + many(8, "deed sb d# 1;"), "deed nosuch");
        fault(6, "leaves 1;", "leaves ((((((((");
        fault(6, "draws 1;", "draws");
        String full = "pace 1;".repeat(80);
        for (String each : new String[] {"pace 1;", "pace 100;", "statue a at 0;", "dish a costs 0 warm 1;", "eater a hunger 1 at 1;", "deed a a 1;", "likes a a 1;",
            "leaves 1;", "draws 1;", "fund 1 grows 1;", "siege 1;", "siege"}) {
            fault(6, full + " ", each);
        }
        good(full + " \n \n", 80);
        // a fault ahead of it comes first
        fault(4, "pace 1;".repeat(79) + "pace ", "0;pace 1;");
    }

    private static void one38FirstAlongTheText() {
        says("Terms I, faults", "FAULTS, the first along the text");
        fault(2, S + "statue ", "s at 100;");
        fault(3, S + "deed s ", "x 0;pace 0;");
        fault(4, "pace ", "0;#");
        fault(1, "pace 1;", "#;pace 0;");
        fault(6, "leaves 1;", "leaves ((((((((1;pace 0;");
        fault(5, "leaves (((((((", "(#");
        FedStatues x = new FedStatues();
        due("the whole tape", city(x, "pace 1;" + " ".repeat(1592) + "#"), NONE);
        due("its last byte", x.fault(1), 1599);
        due("a text as long as the tape", city(x, "pace 7;" + " ".repeat(1593)), 1);
        due("ends too soon there", city(x, " ".repeat(1596) + "pace"), NONE);
        due("at 1600", x.fault(1), 1600);
    }

    // ---- II. days

    private static void two01DayNought() {
        says("Terms II", "It is DAY 0 at first");
        due("day", of("pace 1;").has(4), 0);
        due("day of a sum", of(S + D + "deed s d 9;leaves 5+day;").plate(0, 0), 5);
    }

    private static void two02LeavesBetween() {
        says("Terms II", "the SUM of leaves, 0 .. what is told (as told without) portions");
        String town = S + D + "deed s d 4;";
        int[][] want = {{-1, 0}, {0, 0}, {1, 1}, {3, 3}, {4, 4}, {5, 4}, {9999, 4}};
        for (int[] each : want) {
            due("leaves " + each[0], of(town + "leaves " + (each[0] < 0 ? "0-1" : each[0]) + ";").plate(0, 0), each[1]);
        }
        due("least of all", of(town + "leaves (0-9999)*9999;").plate(0, 0), 0);
        due("most of all", of(town + "leaves 9999*9999;").plate(0, 0), 4);
        due("none is not broken", of(town + "leaves 0;").plate(0, 2), 0);
        due("as told without", of(town).plate(0, 0), 4);
        FedStatues x = of(town + "leaves 7;");
        x.change(0, 9);
        due("told now", x.plate(0, 0), 7);
        x.change(0, 0);
        due("nothing told", x.plate(0, 0), 0);
    }

    private static void two03CoinsForAll() {
        says("Terms II", "as long as the fund has coins for all of these: they are paid", "else the DEED is BROKEN (nothing is put; the next one is tried)");
        String town = S + "dish d costs 3 warm 1;dish f costs 1 warm 1;dish g costs 0 warm 1;deed s d 4;deed s f 2;deed s g 9;";
        int[][] want = {{0, 0, 0}, {1, 0, 0}, {2, 0, 2}, {11, 0, 2}, {12, 4, 0}, {13, 4, 0}, {14, 4, 2}};
        for (int[] each : want) {
            FedStatues x = of(town + "fund " + each[0] + " grows 0;");
            due(each[0] + " coins, the first", x.plate(0, 0), each[1]);
            due(each[0] + " coins, the first broken", x.plate(0, 2), each[1] == 0 ? 1 : 0);
            due(each[0] + " coins, the next one", x.plate(1, 0), each[2]);
            due(each[0] + " coins, the next one broken", x.plate(1, 2), each[2] == 0 ? 1 : 0);
            due(each[0] + " coins, for nothing", x.plate(2, 0), 9);
            due(each[0] + " coins, for nothing not broken", x.plate(2, 2), 0);
            due(each[0] + " coins, paid", x.later(1, 0), each[0] - 3 * each[1] - each[2]);
        }
    }

    private static void two04AboveNought() {
        says("Terms II", "he goes to the plate with the greatest SUM of draws, if that is above 0 (likes less off without)");
        String town = S + D + "deed s d 4;eater e hunger 3 at ";
        due("10 less 9", of(town + "9;").meal(0, 1), 3);
        due("10 less 10", of(town + "10;").meal(0, 1), 0);
        due("10 less 11", of(town + "11;").meal(0, 1), 0);
        due("draws 1", of(town + "99;draws 1;").meal(0, 1), 3);
        due("draws 0", of(town + "0;draws 0;").meal(0, 1), 0);
        due("draws -1", of(town + "0;draws 0-1;").meal(0, 1), 0);
        due("the greatest", of(S + D + "dish f costs 1 warm 1;deed s d 4;deed s f 4;eater e hunger 1 at 0;likes e f 11;").meal(0, 2), 1);
    }

    private static void two05LikeOnes() {
        says("Terms II", "of like ones the first DEED, of those that are not empty");
        String town = S + D + "dish f costs 1 warm 1;dish g costs 1 warm 1;deed s d 2;deed s f 2;deed s g 9;eater e hunger 5 at 0;eater h hunger 2 at 0;";
        FedStatues x = of(town);
        due("the first", x.meal(0, 2), 0);
        x.days(1);
        int[] deeds = {0, 0, 1, 1, 2, 2, 2};
        for (int k = 0; k < deeds.length; k++) {
            due("portion " + k, x.kept(k, 1), deeds[k]);
        }
        due("the second eater's first", of(town).meal(1, 2), 2);
        due("all empty", of(S + D + "deed s d 1;eater e hunger 1 at 0;eater f hunger 1 at 0;").meal(1, 2), NONE);
        due("nothing put is empty", of(S + D + "deed s d 1;eater e hunger 1 at 0;leaves 0;draws 1;").meal(0, 1), 0);
    }

    private static void two05EaterByEater() {
        says("Terms II", "EATER by EATER, from where he sleeps on");
        FedStatues x = of("statue a at 0;statue b at 9;" + D + "deed a d 1;deed b d 1;eater e hunger 1 at 5;eater f hunger 1 at 4;eater g hunger 1 at 0;");
        due("nearer to b", x.meal(0, 2), 1);
        due("then the other one", x.meal(1, 2), 0);
        due("none left for the last", x.meal(2, 2), NONE);
        due("who still wants", x.meal(2, 0), 1);
        // he goes on from where he ate: 9 steps are too many with 10 likes less one
        FedStatues y = of("statue a at 0;statue b at 10;" + D + "deed a d 1;deed b d 1;eater e hunger 2 at 4;");
        due("ten off from a", y.meal(0, 1), 1);
        FedStatues z = of("statue a at 0;statue b at 9;" + D + "deed a d 1;deed b d 1;eater e hunger 2 at 4;");
        due("nine off from a", z.meal(0, 1), 2);
    }

    private static void two06AsLongAsHeWants() {
        says("Terms II", "as long as he wants more (his hunger at first)", "What he still wants then is HUNGER");
        String town = S + D + "deed s d 5;eater e hunger ";
        for (int hunger = 1; hunger <= 20; hunger++) {
            FedStatues x = of(town + hunger + " at 0;");
            due("eats by hunger " + hunger, x.meal(0, 1), Math.min(5, hunger));
            due("still wants by hunger " + hunger, x.meal(0, 0), Math.max(0, hunger - 5));
            due("left by hunger " + hunger, x.plate(0, 1), Math.max(0, 5 - hunger));
        }
    }

    private static void two07GoneByTheNextDay() {
        says("Terms II", "what is left on plates is gone by the next DAY");
        FedStatues x = of(S + D + "deed s d 2;eater e hunger 5 at 0;leaves if(day=0,told,0);draws if(day=0,2-hunger/5*2,1);");
        due("left on day 0", x.plate(0, 1), 2);
        due("day 0", x.days(1), 0);
        due("nothing put on day 1", x.plate(0, 0), 0);
        due("nothing eaten on day 1", x.days(1), 0);
    }

    private static void two08FundGrows() {
        says("Terms II", "At last the fund has so many of a hundred more of what it has then (floor; 999999 at most)");
        int[][] want = {{100, 1, 101}, {99, 1, 99}, {199, 1, 200}, {200, 1, 202}, {1, 100, 2}, {0, 100, 0}, {1, 99, 1}, {9999, 0, 9999}, {9999, 100, 19998}, {3, 50, 4}};
        for (int[] each : want) {
            FedStatues x = of("fund " + each[0] + " grows " + each[1] + ";");
            due(each[0] + " by " + each[1], x.later(1, 0), each[2]);
            x.days(1);
            due(each[0] + " by " + each[1] + " when it came", x.has(5), each[2]);
        }
        due("of what it has then", of(S + D + "deed s d 9;fund 10 grows 100;").later(1, 0), 2);
        int[][] most = {{499999, 999998}, {500000, 999999}, {999998, 999999}, {999999, 999999}};
        for (int[] each : most) {
            FedStatues x = of("fund 1 grows 100;");
            on(x, 0, each[0]);
            due(each[0] + " ahead", x.later(1, 0), each[1]);
            x.days(1);
            due(each[0] + " when it came", x.has(5), each[1]);
            x.days(1);
            due(each[0] + " a day on", x.has(5), 999999);
        }
    }

    private static void two09LastDay() {
        says("Terms II", "the DAY is one more (9999 at most)");
        FedStatues x = of("pace 1;");
        x.days(1);
        due("one more", x.has(4), 1);
        on(x, 9998, 5);
        due("up to it", x.days(1), 0);
        due("9999", x.has(4), 9999);
        due("not beyond", x.days(1), NONE);
        due("not beyond by the seed", x.chance(1), NONE);
        due("9999 still", x.has(4), 9999);
    }

    private static long seedWhere(int which, int from, int to) {
        for (long seed = 0; seed < 1000000; seed++) {
            long x = seed;
            for (int i = 0; i < which; i++) {
                x = nextSeed(x);
            }
            int draw = drawOf(x, 100);
            if (draw >= from && draw <= to) {
                return seed;
            }
        }
        return 0;
    }

    private static void two10Siege() {
        says("Terms II", "BY THE SEED each DAY begins with a DRAW of 100: below siege it is a siege on that DAY (without that there is none)");
        for (int draw : new int[] {0, 1, 50, 98, 99}) {
            int seed = (int) seedWhere(1, draw, draw);
            FedStatues same = of("siege " + draw + ";");
            same.seed(seed);
            due("draw " + draw + " is not below " + draw, same.chance(1), 0);
            FedStatues more = of("siege " + (draw + 1) + ";");
            more.seed(seed);
            due("draw " + draw + " is below " + (draw + 1), more.chance(1), 1);
        }
        FedStatues never = of("siege 0;");
        due("never", never.chance(100), 0);
        FedStatues always = of("siege 100;");
        due("always", always.chance(100), 100);
        due("without", of("").chance(100), 0);
    }

    private static void two11Bequest() {
        says("Terms II", "it ends with a DRAW of 100: below 10 there is a BEQUEST of a DRAW of 100 coins to the fund");
        for (int draw : new int[] {0, 9, 10, 99}) {
            long seed = seedWhere(2, draw, draw);
            long second = nextSeed(nextSeed(seed));
            long third = nextSeed(second);
            FedStatues x = of("fund 200 grows 10;");
            x.seed((int) seed);
            x.chance(1);
            due("fund by draw " + draw, x.has(5), 220 + (draw < 10 ? drawOf(third, 100) : 0));
            due("seed by draw " + draw, x.has(12), draw < 10 ? third : second);
        }
        FedStatues full = of("");
        on(full, 0, 999999);
        long seed = 0;
        while (drawOf(nextSeed(nextSeed(seed)), 100) >= 10 || drawOf(nextSeed(nextSeed(nextSeed(seed))), 100) == 0) {
            seed++;
        }
        full.seed((int) seed);
        full.chance(1);
        due("999999 at most", full.has(5), 999999);
    }

    private static void two12Kept() {
        says("Terms II", "KEPT is each portion that was eaten on the latest DAY: EATER, DEED, in their order (160 at most)");
        // as many as can be: 16 deeds of 9 for 8 eaters who want 20 each
        String town = many(2, "statue s# at 0;") + many(8, "dish d# costs 0 warm 1;") + many(8, "deed sa d# 9;") + many(8, "deed sb d# 9;") + many(8, "eater e# hunger 20 at 0;");
        FedStatues x = of(town);
        due("eaten", x.days(1), 144);
        due("kept", x.has(10), 144);
        for (int k = 0; k < 144; k += 13) {
            due("eater of " + k, x.kept(k, 0), k / 20);
            due("deed of " + k, x.kept(k, 1), k / 9);
        }
        due("the last", x.kept(143, 1), 15);
        due("behind it", x.kept(144, 0), NONE);
        FedStatues y = of(S + D + "deed s d 3;eater e hunger 2 at 0;eater f hunger 2 at 0;fund 4 grows 0;");
        due("two days, all eaten", y.days(2), 3);
        due("of the latest alone", y.has(10), 0);
        y.undo();
        due("nothing kept again", y.has(10), 0);
    }

    private static void two13TwentyActs() {
        says("Terms II", "The last 20 can be undone");
        FedStatues x = of("fund 0 grows 0;");
        for (int i = 1; i <= 45; i++) {
            x.give(1);
            due("acts behind " + i, x.has(11), Math.min(20, i));
        }
        for (int i = 1; i <= 20; i++) {
            due("undo " + i, x.undo(), true);
            due("coins behind undo " + i, x.has(5), 45 - i);
        }
        due("the 21st", x.undo(), false);
        due("25 stay", x.has(5), 25);
        // and again from there
        for (int i = 1; i <= 21; i++) {
            x.give(2);
        }
        for (int i = 1; i <= 20; i++) {
            due("undo again " + i, x.undo(), true);
        }
        due("the 21st again", x.undo(), false);
        due("27 stay", x.has(5), 27);
    }

    private static void two14KindsOfActs() {
        says("Terms II", "ACTS: DAYS come (without DRAWS); DAYS by the seed; coins are given to the fund; a DEED is changed");
        FedStatues x = of(S + D + "deed s d 3;fund 50 grows 0;");
        x.days(100);
        due("a hundred days, one act", x.has(11), 1);
        due("without draws", x.has(12), 1);
        x.chance(100);
        due("a hundred by the seed, one act", x.has(11), 2);
        x.give(5);
        due("given", x.has(11), 3);
        x.change(0, 3);
        due("changed to the same", x.has(11), 4);
        x.seed(5);
        x.image();
        seen(x, 0, 0);
        x.plate(0, 0);
        x.later(60, 0);
        x.feeds(0, 0);
        x.undo();
        due("nothing else is an act", x.has(11), 3);
        x.days(0);
        x.chance(101);
        x.give(0);
        x.change(0, 10);
        due("what is refused is none", x.has(11), 3);
    }

    private static void two15Draw() {
        says("Terms II", "A DRAW of m: x (the seed) becomes (1103515245 x + 12345) mod 2 to the 31; floor(x / 64) mod m");
        for (int seed : new int[] {0, 1, 2, 63, 64, 65535, 65536, 1 << 30, Integer.MAX_VALUE - 1, Integer.MAX_VALUE}) {
            FedStatues x = of("siege 50;");
            x.seed(seed);
            long s = seed;
            int sieges = 0;
            for (int i = 0; i < 10; i++) {
                s = nextSeed(s);
                sieges += drawOf(s, 100) < 50 ? 1 : 0;
                s = nextSeed(s);
                if (drawOf(s, 100) < 10) {
                    s = nextSeed(s);
                }
            }
            due("sieges from " + seed, x.chance(10), sieges);
            due("the seed behind " + seed, x.has(12), s);
        }
    }

    // ---- III. what is asked

    private static void three01Ahead() {
        says("Terms III", "AHEAD are DAYS as they come from now on without DRAWS (60 at most, not beyond DAY 9999)");
        FedStatues x = of("fund 1 grows 0;siege 100;");
        due("60", x.later(60, 0), 1);
        due("61", x.later(61, 0), NONE);
        int[][] last = {{9938, 60}, {9939, 60}, {9940, 59}, {9998, 1}, {9999, 0}};
        for (int[] each : last) {
            on(x, each[0], 1);
            due("the last from " + each[0], x.later(each[1], 0), 1);
            due("behind it from " + each[0], x.later(each[1] + 1, 0), NONE);
        }
        FedStatues sums = of(S + D + "deed s d 9;fund 90 grows 0;siege 100;leaves if(siege=0,day,9);");
        due("each by its day, without a siege", sums.later(4, 0), 90 - 1 - 2 - 3);
        sums.days(2);
        due("each by its day from now on", sums.later(2, 0), 89 - 2 - 3);
        FedStatues y = of(S + D + "deed s d 1;fund 60 grows 0;");
        due("broken on the 61st is not ahead", y.broken(0), NONE);
        y.days(1);
        due("broken on the 60th", y.broken(0), 60);
        on(y, 9990, 9, 1);
        due("broken beyond 9999", y.broken(0), NONE);
        on(y, 9990, 8, 1);
        due("broken by 9999", y.broken(0), 9);
    }

    private static void three02Round() {
        says("Terms III", "gone by one carrier from PLACE 0 on at noon, each step taking the pace: each must be come to no later than each of its DISHES stays warm");
        for (int pace : new int[] {1, 7, 20}) {
            int minutes = 9 * pace;
            String town = "statue s at 9;pace " + pace + ";dish q costs 1 warm 999;deed s q 1;";
            due("just warm", of(town + "dish d costs 1 warm " + minutes + ";deed s d 1;").round(NONE), minutes);
            due("just cold", of(town + "dish d costs 1 warm " + (minutes - 1) + ";deed s d 1;").round(NONE), NONE);
            due("just cold, no first", of(town + "dish d costs 1 warm " + (minutes - 1) + ";deed s d 1;").round(0), NONE);
            due("cold, but no deed of it", of(town + "dish d costs 1 warm 1;").round(NONE), minutes);
        }
        due("at 0 in no time", of(S + D + "deed s d 1;pace 20;").round(NONE), 0);
        due("the longest: 99 steps of 20", of("statue s at 99;pace 20;dish d costs 1 warm 999;deed s d 1;").round(NONE), NONE);
        due("99 steps of 10", of("statue s at 99;pace 10;dish d costs 1 warm 990;deed s d 1;").round(NONE), 990);
    }

    private static void three03RoundOrder() {
        says("Terms III", "an order of all STATUES that have a DEED", "the one that ends soonest, of like ones the first");
        FedStatues x = of("statue a at 5;statue b at 5;statue c at 0;statue q at 7;statue d at 5;statue e at 2;statue r at 1;statue u at 5;"
            + "dish z costs 1 warm 999;deed d z 1;deed b z 1;deed a z 1;deed c z 1;deed e z 1;");
        int[] order = {2, 5, 0, 1, 4};
        due("minutes", x.round(NONE), 5);
        for (int k = 0; k < order.length; k++) {
            due("statue " + k, x.round(k), order[k]);
        }
        due("no sixth", x.round(5), NONE);
        due("none have a deed", of(S).round(NONE), 0);
        due("none have a deed, no first", of(S).round(0), NONE);
    }

    private static void three04Carriers() {
        says("Terms III", "CARRIERS: as few as can be, each on a ROUND of his own of some of them");
        due("none", of(S).carriers(), 0);
        due("one", of(S + D + "deed s d 1;").carriers(), 1);
        due("one for eight", of(many(8, "statue s# at 9;") + "dish d costs 1 warm 9;" + many(8, "deed s# d 1;")).carriers(), 1);
        due("just warm", of("statue s at 9;dish d costs 1 warm 9;deed s d 1;").carriers(), 1);
        due("just cold", of("statue s at 9;dish d costs 1 warm 8;deed s d 1;").carriers(), NONE);
        due("one of two cold", of(S + "statue t at 2;" + D + "deed s d 1;deed t d 1;").carriers(), NONE);
    }

    private static void three05Keep() {
        says("Terms III", "KEEP: of DEEDS (whole, as they tell now) for so many coins a day those with the most portions together; of like ones the least bits");
        String town = S + "statue t at 0;dish d costs 2 warm 1;dish f costs 3 warm 1;deed s d 3;deed s f 2;deed t d 3;deed t f 2;";
        // 6, 6, 6, 6 coins for 3, 2, 3, 2 portions
        int[][] want = {{0, 0}, {5, 0}, {6, 1}, {11, 1}, {12, 5}, {17, 5}, {18, 7}, {23, 7}, {24, 15}, {9999, 15}};
        FedStatues x = of(town);
        for (int[] each : want) {
            due("keep for " + each[0], x.keep(each[0], 0), each[1]);
        }
        // 6 for 3, 3 for 3, 5 for 5: the last is needed, and then there are not coins for the first
        FedStatues y = of(S + "statue t at 0;dish d costs 2 warm 1;dish f costs 1 warm 1;deed s d 3;deed s f 3;deed t f 5;");
        due("what is left decides", y.keep(8, 0), 6);
        due("what is left decides, portions", y.keep(8, 1), 8);
        x.change(0, 4);
        due("8 coins now", x.keep(7, 0), 4);
        due("whole: 8 for 4", x.keep(8, 0), 1);
        x.change(0, 0);
        due("nothing told is no bit", x.keep(9999, 0), 14);
        due("what costs nothing for nothing", of(S + "dish d costs 0 warm 1;deed s d 1;").keep(0, 0), 1);
    }

    private static void three06Feeds() {
        says("Terms III", "FEEDS: the least number of portions more (1 .. 9) that one DEED would have to tell (9 at most together) so that one EATER has no HUNGER today; of like DEEDS the first");
        String town = S + "dish d costs 0 warm 1;dish f costs 0 warm 1;deed s d 1;deed s f 5;eater e hunger ";
        int[][] want = {{6, 0, NONE}, {7, 1, 0}, {10, 4, 0}, {11, 5, 0}, {14, 8, 0}, {15, NONE, NONE}};
        for (int[] each : want) {
            FedStatues x = of(town + each[0] + " at 0;");
            due("more for hunger " + each[0], x.feeds(0, 0), each[1]);
            due("deed for hunger " + each[0], x.feeds(0, 1), each[2]);
        }
        FedStatues x = of(town + "9 at 0;leaves if(rank=0,0,told);");
        due("by the second alone", x.feeds(0, 0), 4);
        due("the second", x.feeds(0, 1), 1);
        due("10 together are too many", of(town + "10 at 0;leaves if(rank=0,0,told);").feeds(0, 0), NONE);
        due("without a siege", of(town + "7 at 0;siege 100;leaves if(siege=0,told,0);").feeds(0, 0), 1);
        FedStatues y = of(town + "14 at 0;");
        y.change(0, 0);
        due("nine more from nothing", y.feeds(0, 0), 9);
        due("nine more of the first", y.feeds(0, 1), 0);
        // the least number comes ahead of the first deed
        FedStatues z = of(town + "7 at 0;leaves if(rank=0,told/2,told);");
        due("two of the second, three of the first", z.feeds(0, 0), 2);
        due("the second by the least", z.feeds(0, 1), 1);
    }

    private static void three07Came() {
        says("Terms III", "CAME: sets of EATERS (the others staying at home) by whom the plates of today, as they are left, are as SEEN");
        String town = S + D + "deed s d 9;" + many(8, "eater e# hunger 1 at 0;");
        FedStatues x = of(town);
        // so many of eight eat one each
        int[] sets = {0, 1, 8, 28, 56, 70, 56, 28, 8, 1};
        for (int left = 0; left <= 9; left++) {
            due("seen", seen(x, 0, left), 1);
            due("sets by which " + left + " are left", x.came(0), sets[left]);
            due("all of them with " + left, x.came(1), left == 1 ? 255 : 0);
            due("some of them with " + left, x.came(2), left == 0 || left == 9 ? 0 : 255);
        }
        FedStatues nobody = of(S + D + "deed s d 9;");
        due("nobody is a set", nobody.came(0), 1);
        seen(nobody, 0, 8);
        due("no set", nobody.came(0), 0);
        FedStatues sieged = of(S + D + "deed s d 9;siege 100;leaves if(siege=0,told,0);eater e hunger 9 at 0;");
        seen(sieged, 0, 9);
        due("without a siege nobody", sieged.came(0), 1);
        due("asked again", sieged.came(0), 1);
        sieged.change(0, 8);
        due("9 are not left of 8", sieged.came(0), 0);
        sieged.undo();
        due("but of 9", sieged.came(0), 1);
    }

    private static void three08SeenRows() {
        says("Terms III", "SEEN are rows of DEED, how many portions are left");
        FedStatues x = of(S + D + "dish f costs 0 warm 1;deed s d 2;deed s f 1;eater e hunger 2 at 0;eater g hunger 1 at 0;");
        // nobody 2 1, e 0 1, g 1 1, both 0 0
        seen(x, 1, 1);
        due("one row", x.came(0), 3);
        seen(x, 1, 1, 0, 0);
        due("both rows must hold", x.came(0), 1);
        due("it is e", x.came(1), 1);
        seen(x, 0, 0, 0, 0);
        due("twice the same", x.came(0), 2);
        seen(x, 0, 0, 0, 1);
        due("not both", x.came(0), 0);
    }

    private static String shares(int[] portions, int[][] likes) {
        StringBuilder text = new StringBuilder();
        for (int s = 0; s < portions.length; s++) {
            char c = (char) ('a' + s);
            text.append("statue s").append(c).append(" at 0;dish d").append(c).append(" costs 0 warm 1;deed s").append(c).append(" d").append(c).append(' ')
                .append(portions[s]).append(';');
        }
        for (int e = 0; e < likes.length; e++) {
            char c = (char) ('a' + e);
            text.append("eater e").append(c).append(" hunger 1 at 0;");
            for (int s = 0; s < portions.length; s++) {
                text.append("likes e").append(c).append(" d").append((char) ('a' + s)).append(' ').append(likes[e][s]).append(';');
            }
        }
        return text.toString();
    }

    private static void three09Shares() {
        says("Terms III", "by how many EATERS there are at it (floor)");
        // 11 by two is 5: no less than 5 alone; but 6 alone is more
        int[] one = {1, 1};
        FedStatues five = of(shares(one, new int[][] {{11, 5}, {11, 5}}));
        due("5 is not more than 5", five.rest(NONE), 1);
        due("nor than 10 by two", of(shares(one, new int[][] {{10, 5}, {10, 5}})).rest(NONE), 1);
        FedStatues six = of(shares(one, new int[][] {{11, 6}, {11, 6}}));
        due("6 is", six.rest(NONE), 2);
        due("the first goes", six.rest(0), 1);
        due("the second has 11 alone", six.rest(1), 0);
        FedStatues seven = of(shares(one, new int[][] {{23, 7}, {23, 7}, {23, 8}}));
        due("23 by three is 7", seven.rest(0), 0);
        due("8 is more than 7", seven.rest(2), 1);
    }

    private static void three10OwnElseFirst() {
        says("Terms III", "(at first all the first one); their own, if it is among the best, else the first");
        due("at first all the first one", of(shares(new int[] {1, 1}, new int[][] {{0, 0}, {0, 0}})).rest(1), 0);
        due("his own first", of(shares(new int[] {1, 1, 1}, new int[][] {{5, 5, 5}})).rest(0), 0);
        due("else the first", of(shares(new int[] {1, 1, 1}, new int[][] {{5, 6, 6}})).rest(0), 1);
        // the second goes to b; then a is as good again (12 alone), and he stays
        FedStatues x = of(shares(new int[] {1, 1, 1}, new int[][] {{12, 7, 30}, {12, 12, 1}}));
        due("the first at c", x.rest(0), 2);
        due("own a stays", x.rest(1), 0);
        FedStatues y = of(shares(new int[] {1, 1, 1}, new int[][] {{12, 12, 1}, {12, 7, 30}}));
        due("b stays though a is as good then", y.rest(0), 1);
        due("the second at c", y.rest(1), 2);
    }

    private static void three11TwelveRounds() {
        says("Terms III", "till a round in which nobody takes another one, or 12 rounds");
        due("nobody in the first", of(shares(new int[] {1, 1}, new int[][] {{5, 5}})).rest(NONE), 1);
        due("nobody in the second", of(shares(new int[] {1, 1}, new int[][] {{5, 6}})).rest(NONE), 2);
        // Eaters only go where their share is more, so it ends; ten rounds are the most that a long search has found.
        FedStatues x = of(shares(new int[] {7, 2, 8, 8}, new int[][] {{43, 88, 76, 13}, {17, 81, 99, 50}, {72, 34, 87, 12}, {80, 16, 94, 67}, {50, 26, 12, 36},
            {94, 89, 99, 72}, {22, 18, 67, 60}, {6, 19, 88, 67}}));
        due("nobody in the tenth", x.rest(NONE), 10);
        int[] rest = {1, 2, 2, 2, 0, 0, 3, 3};
        for (int e = 0; e < 8; e++) {
            due("the statue of " + e, x.rest(e), rest[e]);
        }
    }

    private static void three12Image() {
        says("Terms III", "AN IMAGE: DAY (two bytes, the higher first), fund (three bytes); for each DEED how many portions it tells; last a byte: all ahead from 131 on, c = (5 c + it) mod 251");
        int[][] want = {{0, 0, 0}, {255, 255, 1}, {256, 256, 9}, {9999, 65535, 2}, {9999, 65536, 3}, {9999, 999999, 9}};
        for (int[] each : want) {
            FedStatues x = of(S + D + "deed s d 5;");
            on(x, each[0], each[1], each[2]);
            due("bytes", x.image(), 7);
            byte[] made = image(each[0], each[1], each[2]);
            for (int k = 0; k < 7; k++) {
                due("byte " + k + " on day " + each[0], x.octet(k), made[k] & 255);
            }
        }
        FedStatues bare = new FedStatues();
        due("without deeds", bare.image(), 6);
        // 131 by 5 thrice and 100: reckoned by hand: 153, 12, 60, 49, 94 (= 245 + 100 - 251)
        due("its last byte", bare.octet(5), 94);
        FedStatues full = of(many(2, "statue s# at 0;") + many(8, "dish d# costs 0 warm 1;") + many(8, "deed sa d# 9;") + many(8, "deed sb d# 9;"));
        due("of sixteen deeds", full.image(), 22);
        due("the sixteenth", full.octet(20), 9);
    }

    public static void main(String[] args) throws ReflectiveOperationException {
        Method[] tests = Arrays.stream(TermsBoundaryTests.class.getDeclaredMethods())
            .filter(m -> Modifier.isStatic(m.getModifiers()) && m.getName().matches("(one|two|three)[0-9]{2}.*"))
            .sorted(Comparator.comparing(Method::getName)).toArray(Method[]::new);
        for (Method test : tests) {
            int before = sentences;
            test.invoke(null);
            if (sentences == before) {
                wrong++;
                System.out.println(test.getName() + " tells no sentence");
            }
        }
        System.out.println(sentences + " sentences, " + asked + " answers asked for, " + wrong + " not as due");
        if (wrong != 0) {
            System.exit(1);
        }
    }
}
