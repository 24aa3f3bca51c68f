import java.io.IOException;
import java.lang.reflect.Method;
import java.lang.reflect.Modifier;
import java.nio.charset.StandardCharsets;
import java.nio.file.Files;
import java.nio.file.Path;
import java.util.Arrays;
import java.util.Comparator;
import java.util.Set;
import java.util.TreeSet;
import java.util.function.BooleanSupplier;
import java.util.function.IntSupplier;
import java.util.function.IntUnaryOperator;

/**
 * The boundary cases that the promises 1 to 33 name, a test for each sentence: its name begins with the promise (p01 to p33),
 * and says() holds the sentence. main runs every method that begins so, and misses a promise without one.
 */
public final class PromiseBoundaryTests {
    private static final int NONE = FedStatues.NONE;
    private static final int MIN = Integer.MIN_VALUE;
    private static final int MAX = Integer.MAX_VALUE;
    /** Two statues, two dishes, three deeds (3 and 4 and 1 coins), two eaters; all are fed but one portion. */
    private static final String TOWN = "statue a at 0;statue bcdefg at 9;dish d costs 1 warm 9;dish f costs 2 warm 999;deed a d 3;deed bcdefg f 2;deed bcdefg d 1;"
        + "eater e hunger 6 at 0;eater gh hunger 1 at 9;likes e f 12;fund 20 grows 10;siege 40;";
    private static final String DOCUMENT = document();
    private static int wrong = 0;
    private static int asked = 0;
    private static int sentences = 0;
    private static String sentence = "";
    private static final Set<Integer> promised = new TreeSet<>();

    // ---- what the tests ask with

    private static void says(int promise, String... words) {
        sentences++;
        promised.add(promise);
        sentence = "Promise " + promise + ": " + String.join(" .. ", words);
        String told = told(promise);
        for (String part : words) {
            due("whether the document has \"" + part + "\"", told.isEmpty() || told.contains(part), true);
        }
    }

    /** What the document says under the promise's heading; nothing where there is no document. */
    private static String told(int promise) {
        int from = DOCUMENT.indexOf("## Promise " + promise + ":");
        int to = DOCUMENT.indexOf("## ", from + 3);
        return from < 0 || to < 0 ? "" : DOCUMENT.substring(from, to);
    }

    private static String document() {
        try {
            return Files.readString(Path.of("../shared/DOC.md")).replaceAll("\\s+", " ");
        } catch (IOException none) {
            return "";
        }
    }

    private static void due(String what, long got, long want) {
        asked++;
        if (got != want) {
            wrong++;
            System.out.println("[" + sentence + "] " + what + " answered " + got + ", due is " + want);
        }
    }

    private static void due(String what, boolean got, boolean want) {
        due(what, got ? 1 : 0, want ? 1 : 0);
    }

    private static void same(String what, String got, String want) {
        asked++;
        if (!got.equals(want)) {
            wrong++;
            System.out.println("[" + sentence + "] " + what + " is " + got + ", due is " + want);
        }
    }

    private static void noneFor(String what, IntUnaryOperator call, int... arguments) {
        for (int argument : arguments) {
            due(what + " of " + argument, call.applyAsInt(argument), NONE);
        }
    }

    private static void tape(FedStatues x, byte[] bytes) {
        x.end(0);
        for (int i = 0; i < bytes.length; i += 20) {
            int[] n = new int[5];
            for (int k = 0; k < 20; k++) {
                int b = i + k < bytes.length ? bytes[i + k] & 255 : 32;
                n[k / 4] = n[k / 4] << 8 | b;
            }
            x.feed(n[0], n[1], n[2], n[3], n[4]);
        }
        x.end(bytes.length);
    }

    private static void tape(FedStatues x, int... bytes) {
        byte[] made = new byte[bytes.length];
        for (int i = 0; i < bytes.length; i++) {
            made[i] = (byte) bytes[i];
        }
        tape(x, made);
    }

    private static int city(FedStatues x, String text) {
        tape(x, text.getBytes(StandardCharsets.ISO_8859_1));
        return x.city();
    }

    private static FedStatues of(String text) {
        FedStatues x = new FedStatues();
        due("city of " + text, city(x, text) >= 0, true);
        return x;
    }

    private static String many(int n, String each) {
        StringBuilder made = new StringBuilder();
        for (int i = 0; i < n; i++) {
            made.append(each.replace('#', (char) ('a' + i)));
        }
        return made.toString();
    }

    /** As many of all as can be. */
    private static FedStatues full() {
        return of(many(8, "statue s# at 1;") + many(8, "dish d# costs 1 warm 1;") + many(8, "eater e# hunger 20 at 1;") + many(8, "deed sa d# 9;") + many(8, "deed sh d# 9;")
            + "fund 9999 grows 0;");
    }

    private static int[] image(int day, int coins, int... portions) {
        int[] made = new int[6 + portions.length];
        made[0] = day >> 8;
        made[1] = day & 255;
        made[2] = coins >> 16;
        made[3] = coins >> 8 & 255;
        made[4] = coins & 255;
        System.arraycopy(portions, 0, made, 5, portions.length);
        int c = 131;
        for (int i = 0; i < made.length - 1; i++) {
            c = (5 * c + made[i]) % 251;
        }
        made[made.length - 1] = c;
        return made;
    }

    private static boolean on(FedStatues x, int... bytes) {
        tape(x, bytes);
        return x.on();
    }

    /** Something kept, seen, undoable, pictured, drawn. */
    private static FedStatues busy() {
        FedStatues x = of(TOWN);
        x.seed(77);
        x.chance(1);
        x.give(30);
        x.days(1);
        x.change(2, 2);
        x.image();
        tape(x, 0, 0, 1, 0);
        x.seen();
        return x;
    }

    private static String allOf(FedStatues x) {
        StringBuilder all = new StringBuilder("has");
        for (int i = 0; i < 13; i++) {
            all.append(' ').append(x.has(i));
        }
        all.append(" deeds");
        for (int d = 0; x.deed(d, 0) != NONE; d++) {
            all.append(' ').append(x.deed(d, 2)).append('/').append(x.deed(d, 3)).append('/').append(x.plate(d, 1)).append('/').append(x.plate(d, 2));
        }
        all.append(" meals");
        for (int e = 0; x.eater(e, 0) != NONE; e++) {
            all.append(' ').append(x.meal(e, 0)).append('/').append(x.meal(e, 2)).append('/').append(x.eater(e, 10));
        }
        all.append(" came ").append(x.came(0)).append(' ').append(x.came(1)).append(" later ").append(x.later(9, 0)).append(" kept");
        for (int k = 0; k < x.has(10); k++) {
            all.append(' ').append(x.kept(k, 0)).append('/').append(x.kept(k, 1));
        }
        all.append(" image");
        for (int k = 0; x.octet(k) != NONE; k++) {
            all.append(' ').append(x.octet(k));
        }
        return all.toString();
    }

    private static int[] refusals(FedStatues x) {
        int[] counts = new int[6];
        for (int i = 0; i < 6; i++) {
            counts[i] = x.status(i);
        }
        return counts;
    }

    /** The call is refused: its answer, all stays, and one more is counted just there. */
    private static void refused(FedStatues x, int which, String call, int want, IntSupplier made) {
        String before = allOf(x);
        int[] counts = refusals(x);
        counts[which]++;
        due(call, made.getAsInt(), want);
        same("all behind " + call, allOf(x), before);
        same("refusals behind " + call, Arrays.toString(refusals(x)), Arrays.toString(counts));
    }

    private static void refused(int which, String call, FedStatues x, IntSupplier made) {
        refused(x, which, call, NONE, made);
    }

    private static void refusedToo(int which, String call, FedStatues x, BooleanSupplier made) {
        refused(x, which, call, 0, () -> made.getAsBoolean() ? 1 : 0);
    }

    private static void tapeGone(String what, FedStatues x) {
        due("the tape behind " + what, x.feed(0, 0, 0, 0, 0), 20);
    }

    // ---- the tape, the city

    private static void p01NoStatues() {
        says(1, "No STATUES, no EATERS; the seed is 1.");
        FedStatues x = new FedStatues();
        int[] has = {0, 0, 0, 0, 0, 100, 0, 1, 0, 0, 0, 0, 1};
        for (int i = 0; i < has.length; i++) {
            due("has(" + i + ")", x.has(i), has[i]);
        }
        for (int what = -1; what <= 10; what++) {
            due("statue(0, " + what + ")", x.statue(0, what), NONE);
            due("dish(0, " + what + ")", x.dish(0, what), NONE);
            due("deed(0, " + what + ")", x.deed(0, what), NONE);
            due("eater(0, " + what + ")", x.eater(0, what), NONE);
            due("plate(0, " + what + ")", x.plate(0, what), NONE);
            due("meal(0, " + what + ")", x.meal(0, what), NONE);
            due("feeds(0, " + what + ")", x.feeds(0, what), NONE);
        }
        due("later(60, 0)", x.later(60, 0), 100);
        due("later(60, 1)", x.later(60, 1), 0);
        due("broken(0)", x.broken(0), NONE);
        due("round(NONE)", x.round(NONE), 0);
        due("round(0)", x.round(0), NONE);
        due("carriers()", x.carriers(), 0);
        due("keep(9999, 1)", x.keep(9999, 1), 0);
        due("came(0)", x.came(0), 1);
        due("rest(NONE)", x.rest(NONE), NONE);
        due("undo()", x.undo(), false);
        due("city of nothing", x.city(), 0);
    }

    private static void p01EachOfItsOwn() {
        says(1, "No STATUES, no EATERS");
        FedStatues x = busy();
        String before = allOf(x);
        FedStatues y = new FedStatues();
        due("no statues", y.has(0), 0);
        y.give(7);
        y.seed(5);
        same("the first object", allOf(x), before);
        due("no tape", y.end(1), false);
        due("no image", y.octet(0), NONE);
    }

    private static void p02MoreThan1600() {
        says(2, "how many there are; NONE, refused (0), if there would be more than 1600");
        FedStatues x = of(TOWN);
        for (int i = 1; i <= 80; i++) {
            due("feed " + i, x.feed(0x20202020, 0x20202020, 0x20202020, 0x20202020, 0x20202020), 20 * i);
        }
        refused(0, "feed 81", x, () -> x.feed(1, 1, 1, 1, 1));
        refused(0, "feed 82", x, () -> x.feed(0, 0, 0, 0, 0));
        due("the tape stays", x.city(), 0);
        FedStatues y = new FedStatues();
        for (int i = 0; i < 80; i++) {
            y.feed(0, 0, 0, 0, 0);
        }
        for (int n = 1599; n > 1580; n--) {
            y.end(n);
            due("feed behind " + n, y.feed(0, 0, 0, 0, 0), NONE);
            due("still " + n, y.end(n), true);
        }
        y.end(1580);
        due("feed behind 1580", y.feed(0, 0, 0, 0, 0), 1600);
        due("refused", y.status(0), 19);
    }

    private static void p02HighestFirst() {
        says(2, "Twenty bytes come behind those on the tape, of each number the highest first");
        FedStatues x = new FedStatues();
        // "statue abcdef at 42;"
        due("twenty", x.feed(0x73746174, 0x75652061, 0x62636465, 0x66206174, 0x2034323b), 20);
        due("city", x.city(), 1);
        due("place", x.statue(0, 0), 42);
        for (int k = 0; k < 6; k++) {
            due("letter " + k, x.letter(0, 0, k), k + 1);
        }
        // bytes above 127 are bytes of their own, and no blanks
        x.feed(0x20202020, 0x202020a0, 0x20202020, 0x20202020, 0x20202020);
        due("160 is no blank", x.city(), NONE);
        due("its place", x.fault(1), 7);
        x.feed(0x2020202a, -1, MIN, MAX, 0);
        due("a star begins nothing", x.city(), NONE);
        due("the star's place", x.fault(1), 3);
    }

    private static void p03NotSoMany() {
        says(3, "The tape has its first n bytes alone: true; false, refused (0), if it has not so many, or n is below 0");
        FedStatues x = of(TOWN);
        refusedToo(0, "end(1) of none", x, () -> x.end(1));
        refusedToo(0, "end(-1)", x, () -> x.end(-1));
        due("end(0) of none", x.end(0), true);
        x.feed(0, 0, 0, 0, 0);
        for (int n : new int[] {-1, -20, MIN, 21, 1600, MAX}) {
            FedStatues y = new FedStatues();
            y.feed(0x70616365, 0x20353b20, 0x20202020, 0x20202020, 0x20202020);
            refusedToo(0, "end(" + n + ")", y, () -> y.end(n));
            due("the tape stays behind end(" + n + ")", y.end(20), true);
            due("and is whole", y.city(), 1);
        }
        due("end(20)", x.end(20), true);
        due("end(19)", x.end(19), true);
        due("end(20) is gone", x.end(20), false);
        due("end(0)", x.end(0), true);
        due("end(1) is gone", x.end(1), false);
        due("refused", x.status(0), 4);
        FedStatues z = new FedStatues();
        z.feed(0x70616365, 0x20353b23, 0x23232323, 0x23232323, 0x23232323);
        due("the first seven alone", z.end(7), true);
        due("what comes next stands behind them", z.feed(0x70616365, 0x20363b20, 0x20202020, 0x20202020, 0x20202020), 27);
        due("two statements", z.city(), 2);
        due("the second", z.has(7), 6);
    }

    private static void p03CutWords() {
        says(3, "The tape has its first n bytes alone");
        FedStatues x = new FedStatues();
        x.feed(0x66756e64, 0x20313233, 0x34352067, 0x726f7773, 0x20313b20);
        x.end(9);
        due("fund 1234", x.city(), NONE);
        due("ends too soon", x.fault(0), 1);
        due("at its length", x.fault(1), 9);
        // "pace 12", cut behind 1
        x.feed(0x70616365, 0x20313220, 0x20202020, 0x20202020, 0x20202020);
        x.end(6);
        due("pace 1", x.city(), NONE);
        due("not read on", x.fault(1), 6);
        String blanks = " ".repeat(1594);
        due("a number at the tape's end", city(x, blanks + "pace 1"), NONE);
        due("its fault", x.fault(1), 1600);
        due("a word at the tape's end", city(x, blanks.substring(1) + "statue "), NONE);
        due("the word's fault", x.fault(1), 1600);
        due("half a word at the tape's end", city(x, blanks.substring(2) + "statue a"), NONE);
        due("half a word's fault", x.fault(1), 1600);
        due("a statement at the tape's end", city(x, blanks.substring(1) + "pace 9;"), 1);
        x.feed(0x73746174, 0x75652061, 0x62636465, 0x66676869, 0x20202020);
        x.end(13);
        due("statue abcdef", x.city(), NONE);
        due("at its length too", x.fault(1), 13);
    }

    private static void p04TapeGoes() {
        says(4, "The tape (it goes) is THE CITY: how many STATEMENTS");
        FedStatues x = new FedStatues();
        due("no statement", x.city(), 0);
        for (int n : new int[] {1, 2, 79, 80}) {
            due(n + " statements", city(x, many(n, "pace 3;")), n);
            tapeGone("a city", x);
        }
        due("with a fault", city(x, "pace 0;"), NONE);
        tapeGone("a fault", x);
    }

    private static void p04AllStays() {
        says(4, "NONE, refused (1), with a FAULT (all stays)");
        for (String text : new String[] {"#", "statue", "statue q at 0;statue q at 0;", "deed q", "pace 0;", "leaves ((((((((", "leaves 1;leaves 1;",
            "fund 1 grows 1;pace 2;siege 3;statue q at 5;dish r costs 5 warm 5;deed q r 5;eater t hunger 5 at 5;likes t r 5;leaves 1;draws 1;;"}) {
            FedStatues x = busy();
            refused(1, "city of " + text, x, () -> city(x, text));
            due("statues stay", x.statue(1, 0), 9);
            due("acts stay", x.undo(), true);
        }
    }

    private static void p04AsAtFirst() {
        says(4, "Without one all is as at first, nothing is KEPT or SEEN, no ACT can be undone; the seed stays");
        FedStatues x = busy();
        int seed = x.has(12);
        due("the same again", city(x, TOWN), 12);
        FedStatues y = of(TOWN);
        y.seed(seed);
        x.image();
        y.image();
        same("as at first", allOf(x), allOf(y));
        due("nothing kept", x.kept(0, 0), NONE);
        due("nothing seen", x.came(0), 4);
        due("no act", x.undo(), false);
        due("the seed", x.has(12), seed);
        FedStatues z = busy();
        due("the empty city", z.city(), 0);
        int[] has = {0, 0, 0, 0, 0, 100, 0, 1, 0, 0, 0, 0};
        for (int i = 0; i < has.length; i++) {
            due("empty has(" + i + ")", z.has(i), has[i]);
        }
        due("its day comes", z.days(1), 0);
        due("its fund is as at first", z.has(5), 100);
    }

    private static void p05LatestCity() {
        says(5, "Of the latest city(): its FAULT (what 0; 0 without, and ahead of any), its place (1; NONE without)");
        FedStatues x = new FedStatues();
        due("ahead of any", x.fault(0), 0);
        due("no place ahead of any", x.fault(1), NONE);
        String[] texts = {"#", "statue a at 0;dish a", "deed a", "pace 0", "leaves ((((((((", "leaves 1;leaves"};
        int[] places = {0, 19, 5, 5, 14, 9};
        for (int i = 0; i < texts.length; i++) {
            city(x, texts[i]);
            due("fault " + (i + 1), x.fault(0), i + 1);
            due("place of fault " + (i + 1), x.fault(1), places[i]);
        }
        x.seen();
        x.on();
        due("other calls change nothing", x.fault(0), 6);
        x.city();
        due("without", x.fault(0), 0);
        due("no place without", x.fault(1), NONE);
    }

    private static void p05AnotherWhat() {
        says(5, "NONE for another what");
        FedStatues x = new FedStatues();
        noneFor("fault", x::fault, -1, 2, 3, MIN, MAX);
        city(x, "pace 0;");
        noneFor("fault with one", x::fault, -1, 2, 3, MIN, MAX);
    }

    private static void p06Others() {
        says(6, "NONE for others");
        FedStatues x = busy();
        noneFor("has", x::has, -1, 13, 14, 100, MIN, MAX);
        for (int what = 0; what <= 12; what++) {
            due("has(" + what + ") is told", x.has(what) >= 0, true);
        }
    }

    private static void p06HowMany() {
        says(6, "How many there are: 0 STATUES, 1 DISHES, 2 DEEDS, 3 EATERS, 4 DAY, 5 coins in the fund, 6 grows, 7 pace, 8 siege, 9 portions told by all DEEDS, "
            + "10 portions KEPT, 11 ACTS that can be undone, 12 the seed.");
        FedStatues x = full();
        int[] has = {8, 8, 16, 8, 0, 9999, 0, 1, 0, 144, 0, 0, 1};
        for (int i = 0; i < has.length; i++) {
            due("full has(" + i + ")", x.has(i), has[i]);
        }
        for (int d = 0; d < 16; d++) {
            x.change(d, 0);
        }
        due("nothing told", x.has(9), 0);
        due("sixteen acts", x.has(11), 16);
        for (int d = 0; d < 16; d++) {
            x.change(d, 9);
        }
        due("all told again", x.has(9), 144);
        due("twenty acts at most", x.has(11), 20);
    }

    private static void p07Letters() {
        says(7, "Letter k (0 .. 5) of the NAME of a STATUE (kind 0), a DISH (1), an EATER (2): 1 .. 26; 0 behind it");
        FedStatues x = of("statue a at 0;statue azazaz at 0;dish zz costs 1 warm 1;eater mnopq hunger 1 at 0;");
        int[][] want = {{0, 0, 1, 0, 0, 0, 0, 0}, {0, 1, 1, 26, 1, 26, 1, 26}, {1, 0, 26, 26, 0, 0, 0, 0}, {2, 0, 13, 14, 15, 16, 17, 0}};
        for (int[] each : want) {
            for (int k = 0; k < 6; k++) {
                due("letter(" + each[0] + ", " + each[1] + ", " + k + ")", x.letter(each[0], each[1], k), each[2 + k]);
            }
        }
        FedStatues y = full();
        for (int kind = 0; kind < 3; kind++) {
            due("the eighth of " + kind, y.letter(kind, 7, 1), 8);
        }
    }

    private static void p07NoneSuch() {
        says(7, "NONE when there is none such");
        FedStatues x = of("statue abcdef at 0;dish b costs 1 warm 1;dish c costs 1 warm 1;eater g hunger 1 at 0;eater h hunger 1 at 0;eater i hunger 1 at 0;");
        noneFor("letter k", k -> x.letter(0, 0, k), -1, 6, 7, MIN, MAX);
        noneFor("letter kind", kind -> x.letter(kind, 0, 0), -1, 3, 4, MIN, MAX);
        for (int kind = 0; kind < 3; kind++) {
            int sort = kind;
            due("the last of " + kind, x.letter(kind, kind, 0) > 0, true);
            noneFor("letter which", which -> x.letter(sort, which, 0), -1, kind + 1, 8, MIN, MAX);
        }
        FedStatues y = full();
        noneFor("full which", which -> y.letter(2, which, 0), -1, 8, MAX);
    }

    private static void p08Without() {
        says(8, "3 the least time any of their DISHES stays warm (0 without)");
        FedStatues x = of("statue a at 7;statue b at 99;dish d costs 1 warm 999;dish f costs 1 warm 1;dish g costs 1 warm 500;deed b g 1;deed b f 9;deed b d 2;");
        int[][] want = {{7, 0, 0, 0}, {99, 3, 12, 1}};
        for (int s = 0; s < 2; s++) {
            for (int what = 0; what < 4; what++) {
                due("statue(" + s + ", " + what + ")", x.statue(s, what), want[s][what]);
            }
        }
        due("of one dish", of("statue a at 7;dish d costs 1 warm 999;deed a d 1;").statue(0, 3), 999);
    }

    private static void p08NoneSuch() {
        says(8, "NONE when there is none such, or for others");
        FedStatues x = of(TOWN);
        due("the last", x.statue(1, 0), 9);
        noneFor("statue", s -> x.statue(s, 0), -1, 2, 8, MIN, MAX);
        noneFor("statue what", what -> x.statue(1, what), -1, 4, 5, MIN, MAX);
        FedStatues y = full();
        due("the eighth", y.statue(7, 2), 72);
        noneFor("full statue", s -> y.statue(s, 0), 8, 9);
    }

    private static void p09NoneSuch() {
        says(9, "NONE when there is none such, or for others");
        FedStatues x = of(TOWN);
        due("the last", x.dish(1, 1), 999);
        due("portions", x.dish(0, 2), 4);
        noneFor("dish", d -> x.dish(d, 0), -1, 2, 8, MIN, MAX);
        noneFor("dish what", what -> x.dish(1, what), -1, 3, 4, MIN, MAX);
        due("of no deed", of("dish d costs 0 warm 1;").dish(0, 2), 0);
        FedStatues y = full();
        due("the eighth", y.dish(7, 2), 18);
        noneFor("full dish", d -> y.dish(d, 0), 8, 9);
    }

    private static void p10NoneSuch() {
        says(10, "NONE when there is none such, or for others");
        FedStatues x = of(TOWN);
        due("the last", x.deed(2, 0), 1);
        noneFor("deed", d -> x.deed(d, 0), -1, 3, 16, MIN, MAX);
        noneFor("deed what", what -> x.deed(2, what), -1, 4, 5, MIN, MAX);
        FedStatues y = full();
        due("the sixteenth", y.deed(15, 3), 9);
        noneFor("full deed", d -> y.deed(d, 0), 16, 17);
    }

    private static void p10NowAndAtFirst() {
        says(10, "2 portions as it tells now, 3 as told at first");
        FedStatues x = of(TOWN);
        for (int portions : new int[] {0, 9, 3}) {
            x.change(0, portions);
            due("now " + portions, x.deed(0, 2), portions);
            due("at first", x.deed(0, 3), 3);
        }
        on(x, image(1, 1, 9, 0, 9));
        due("now by an image", x.deed(1, 2), 0);
        due("at first still", x.deed(1, 3), 2);
    }

    private static void p11NoneSuch() {
        says(11, "10 and d: how he likes DISH d. NONE when there is none such, or for others");
        FedStatues x = of(TOWN);
        due("likes the first", x.eater(0, 10), 10);
        due("likes the last", x.eater(0, 11), 12);
        noneFor("eater", e -> x.eater(e, 0), -1, 2, 8, MIN, MAX);
        noneFor("eater likes", e -> x.eater(e, 10), -1, 2, 8, MIN, MAX);
        noneFor("eater what", what -> x.eater(1, what), -1, 2, 9, 12, 18, MIN, MIN + 9, MIN + 10, MAX);
        FedStatues y = full();
        due("the eighth likes the eighth", y.eater(7, 17), 10);
        noneFor("full what", what -> y.eater(7, what), 9, 18);
        noneFor("full eater", e -> y.eater(e, 17), 8, 9);
        noneFor("without dishes", what -> of("eater e hunger 1 at 0;").eater(0, what), 10, 11);
    }

    // ---- today, ahead

    private static void p12Today() {
        says(12, "Today (the DAY that would come now, without DRAWS)");
        FedStatues x = of("statue s at 0;dish d costs 1 warm 1;deed s d 9;siege 100;fund 9 grows 0;leaves if(siege=1,9,day+1);");
        due("on day 0", x.plate(0, 0), 1);
        due("asked again", x.plate(0, 0), 1);
        due("nothing came", x.has(4), 0);
        due("nothing drawn", x.has(12), 1);
        due("nothing paid", x.has(5), 9);
        x.days(1);
        due("on day 1", x.plate(0, 0), 2);
        x.undo();
        due("on day 0 again", x.plate(0, 0), 1);
        x.give(1);
        due("with a coin more", x.plate(0, 0), 1);
        due("a day later", x.later(1, 0), 9);
        x.give(100);
        due("a day later with more coins", x.later(1, 0), 109);
        x.chance(1);
        due("on day 1 behind chance", x.plate(0, 0), 2);
        due("a day later behind chance", x.later(1, 0), x.has(5) - 2);
        on(x, image(6, 6, 9));
        due("6 coins are not 7", x.plate(0, 2), 1);
        on(x, image(6, 7, 9));
        due("7 coins are", x.plate(0, 0), 7);
    }

    private static void p12NoneSuch() {
        says(12, "0 how many portions are put, 1 how many are left, 2 whether it is BROKEN. NONE when there is none such, or for others");
        FedStatues x = of(TOWN);
        int[][] want = {{3, 0, 0}, {2, 0, 0}, {1, 0, 0}};
        for (int d = 0; d < 3; d++) {
            for (int what = 0; what < 3; what++) {
                due("plate(" + d + ", " + what + ")", x.plate(d, what), want[d][what]);
            }
        }
        noneFor("plate", d -> x.plate(d, 0), -1, 3, 16, MIN, MAX);
        noneFor("plate what", what -> x.plate(2, what), -1, 3, 4, MIN, MAX);
        FedStatues y = full();
        due("the sixteenth", y.plate(15, 0), 9);
        due("the sixteenth left", y.plate(15, 1), 0);
        noneFor("full plate", d -> y.plate(d, 0), 16, 17);
    }

    private static void p13FirstDeed() {
        says(13, "the first DEED he eats of (2; NONE)");
        FedStatues x = of("statue a at 0;statue b at 50;dish d costs 0 warm 1;deed a d 1;deed b d 1;eater e hunger 2 at 50;eater f hunger 1 at 25;eater g hunger 1 at 50;eater h hunger 1 at 9;");
        int[][] want = {{1, 1, 1}, {1, 0, NONE}, {1, 0, NONE}, {0, 1, 0}};
        for (int e = 0; e < 4; e++) {
            for (int what = 0; what < 3; what++) {
                due("meal(" + e + ", " + what + ")", x.meal(e, what), want[e][what]);
            }
        }
    }

    private static void p13NoneSuch() {
        says(13, "NONE when there is none such, or for others");
        FedStatues x = of(TOWN);
        due("the first", x.meal(0, 1), 6);
        due("the last", x.meal(1, 0), 1);
        noneFor("meal", e -> x.meal(e, 0), -1, 2, 8, MIN, MAX);
        noneFor("meal what", what -> x.meal(0, what), -1, 3, 4, MIN, MAX);
        FedStatues y = full();
        due("the eighth eats", y.meal(7, 1), 4);
        due("the eighth wants", y.meal(7, 0), 16);
        noneFor("full meal", e -> y.meal(e, 0), 8, 9);
    }

    private static void p14NoughtDays() {
        says(14, "Behind n DAYS AHEAD (0 .. 60)", "(1, 2, 3: 0 for n 0)");
        FedStatues x = of(TOWN);
        due("coins now", x.later(0, 0), 20);
        due("hunger for 0", x.later(0, 1), 0);
        due("left for 0", x.later(0, 2), 0);
        due("broken for 0", x.later(0, 3), 0);
        // 8 of 20 are paid, 12 grow to 13; 5 to 5; then 3 are paid, the second broken, 1 paid: 1 grows to 1
        due("coins behind 1", x.later(1, 0), 13);
        due("hunger on it", x.later(1, 1), 1);
        due("coins behind 2", x.later(2, 0), 5);
        due("broken on it", x.later(2, 3), 0);
        due("coins behind 3", x.later(3, 0), 1);
        due("broken behind 3", x.later(3, 3), 1);
        due("hunger behind 3", x.later(3, 1), 3);
        due("coins behind 60", x.later(60, 0), 0);
        due("hunger behind 60", x.later(60, 1), 7);
        due("broken behind 60", x.later(60, 3), 3);
        due("still for 0", x.later(0, 3), 0);
        due("coins now still", x.later(0, 0), 20);
        due("left over", of("statue s at 0;dish d costs 0 warm 1;deed s d 9;eater e hunger 2 at 0;").later(60, 2), 7);
    }

    private static void p14CannotBe() {
        says(14, "NONE when n can't be, or for others");
        FedStatues x = of(TOWN);
        for (int what = 0; what < 4; what++) {
            int asks = what;
            noneFor("later what " + what, n -> x.later(n, asks), -1, 61, 62, MIN, MAX);
        }
        noneFor("later what", what -> x.later(0, what), -1, 4, 5, MIN, MAX);
        noneFor("later 60 what", what -> x.later(60, what), -1, 4, 5, MIN, MAX);
        on(x, image(9999, 5, 1, 1, 1));
        due("on the last day", x.later(0, 0), 5);
        noneFor("later on the last day", n -> x.later(n, 0), -1, 1, 60);
        on(x, image(9939, 0, 1, 1, 1));
        due("just 60", x.later(60, 3), 3);
        on(x, image(9940, 0, 1, 1, 1));
        noneFor("later from 9940", n -> x.later(n, 3), 60, 61);
    }

    private static void p15FirstBroken() {
        says(15, "in how many DAYS (what 0; 1: the next one), which (1)");
        FedStatues x = of(TOWN);
        due("in", x.broken(0), 3);
        due("which", x.broken(1), 1);
        x.days(1);
        due("a day on", x.broken(0), 2);
        x.days(1);
        due("the next one", x.broken(0), 1);
        due("which still", x.broken(1), 1);
        x.change(0, 6);
        due("the first of two", x.broken(1), 0);
        due("the next one of two", x.broken(0), 1);
        FedStatues y = of("statue s at 0;dish d costs 1 warm 1;deed s d 1;fund 59 grows 0;");
        due("on the 60th", y.broken(0), 60);
        due("on the 60th, which", y.broken(1), 0);
    }

    private static void p15Without() {
        says(15, "NONE without, or for others");
        FedStatues x = of("statue s at 0;dish d costs 1 warm 1;deed s d 1;fund 60 grows 0;");
        due("without", x.broken(0), NONE);
        due("without, which", x.broken(1), NONE);
        noneFor("broken", x::broken, -1, 2, 3, MIN, MAX);
        x.days(60);
        due("with", x.broken(0), 1);
        noneFor("broken with", x::broken, -1, 2, 3, MIN, MAX);
        on(x, image(9999, 0, 1));
        due("none ahead on the last day", x.broken(0), NONE);
        due("none ahead on the last day, which", x.broken(1), NONE);
        on(x, image(9998, 0, 1));
        due("one ahead", x.broken(0), 1);
        x.change(0, 0);
        due("nothing told is never broken", x.broken(0), NONE);
        due("full", full().broken(0), NONE);
    }

    // ---- rounds, carriers, what to keep

    private static void p16CannotBe() {
        says(16, "A ROUND: minutes (k NONE), the k-th STATUE. NONE when it can't be, or when there is none such");
        FedStatues x = of(TOWN);
        due("minutes", x.round(NONE), 9);
        due("the first", x.round(0), 0);
        due("the second", x.round(1), 1);
        noneFor("round", x::round, 2, 3, 8, -2, MIN, MAX);
        FedStatues cold = of(TOWN + "pace 2;");
        noneFor("cold round", cold::round, NONE, 0, 1, 2, -2, MIN, MAX);
        FedStatues y = of(many(8, "statue s# at 3;") + "dish d costs 1 warm 3;" + many(8, "deed s# d 1;"));
        for (int k = 0; k < 8; k++) {
            due("of eight " + k, y.round(k), k);
        }
        noneFor("of eight", y::round, 8, 9);
        due("without", new FedStatues().round(NONE), 0);
        noneFor("without", new FedStatues()::round, 0, 1);
        due("of sixteen deeds", full().round(NONE), 1);
        due("of sixteen deeds, the second", full().round(1), 7);
        due("one city on", city(y, TOWN), 12);
        due("two cities on", city(y, "statue s at 2;statue r at 1;dish d costs 1 warm 2;deed s d 1;"), 4);
        due("no deed of the cities before", y.round(NONE), 2);
        due("its first", y.round(0), 0);
        x.change(0, 0);
        due("a deed of nothing is one", x.round(0), 0);
    }

    private static void p17NotEnough() {
        says(17, "CARRIERS: how many; NONE when all are not enough");
        due("none", new FedStatues().carriers(), 0);
        due("none with statues", of("statue a at 99;").carriers(), 0);
        due("one", of(TOWN).carriers(), 1);
        due("not enough", of(TOWN + "pace 2;").carriers(), NONE);
        String town = "statue a at 1;statue b at 50;dish d costs 1 warm 50;dish f costs 1 warm ";
        due("just enough", of(town + "1;deed a f 1;deed b d 1;").carriers(), 1);
        due("one is cold", of(town + "1;deed a f 1;deed b d 1;deed b f 1;").carriers(), NONE);
        due("far ones without a deed", of(town + "1;deed a f 1;").carriers(), 1);
    }

    private static void p18SoManyCoins() {
        says(18, "KEEP for so many coins (0 .. 9999)", "NONE when it can't be, or for others");
        FedStatues x = of(TOWN);
        for (int what = 0; what < 3; what++) {
            int asks = what;
            due("keep(0, " + what + ")", x.keep(0, what), 0);
            noneFor("keep what " + what, coins -> x.keep(coins, asks), -1, 10000, 10001, MIN, MAX);
        }
        int[] all = {7, 6, 8};
        for (int what = 0; what < 3; what++) {
            due("keep(8, " + what + ")", x.keep(8, what), all[what]);
            due("keep(9999, " + what + ")", x.keep(9999, what), all[what]);
        }
        due("keep(7, 0)", x.keep(7, 0), 3);
        due("keep(7, 1)", x.keep(7, 1), 5);
        due("keep(7, 2)", x.keep(7, 2), 7);
        noneFor("keep others", what -> x.keep(8, what), -1, 3, 4, MIN, MAX);
        FedStatues y = of(many(8, "statue s# at 1;") + "dish p costs 99 warm 1;dish q costs 99 warm 1;" + many(8, "deed s# p 9;") + many(8, "deed s# q 9;"));
        // 891 for nine each: eleven are 9801, all sixteen 14256
        due("dearest portions", y.keep(9999, 1), 99);
        due("dearest bits", y.keep(9999, 0), 2047);
        due("dearest coins", y.keep(9999, 2), 9801);
        due("one coin too few", y.keep(9800, 1), 90);
        due("just enough", y.keep(9801, 1), 99);
        due("the first alone", y.keep(891, 0), 1);
        due("none", y.keep(890, 0), 0);
        FedStatues free = of("statue s at 0;dish d costs 0 warm 1;deed s d 9;");
        due("for nothing", free.keep(0, 0), 1);
        due("full", full().keep(144, 0), 65535);
        due("full but one coin", full().keep(143, 0), 32767);
    }

    private static void p19NoHunger() {
        says(19, "portions more (what 0; 0 if he has no HUNGER), the DEED (1; NONE then)");
        FedStatues x = of("statue s at 0;dish d costs 1 warm 1;deed s d 4;eater e hunger 4 at 0;eater f hunger 5 at 0;eater g hunger 1 at 0;fund 99 grows 0;");
        due("fed", x.feeds(0, 0), 0);
        due("fed, no deed", x.feeds(0, 1), NONE);
        due("five more", x.feeds(1, 0), 5);
        due("five more, deed", x.feeds(1, 1), 0);
        due("six more are ten", x.feeds(2, 0), NONE);
        due("six more are ten, deed", x.feeds(2, 1), NONE);
        x.change(0, 9);
        due("fed now", x.feeds(1, 0), 0);
        due("fed now, no deed", x.feeds(1, 1), NONE);
        x.change(0, 0);
        due("four more", x.feeds(0, 0), 4);
        due("nine more", x.feeds(1, 0), 9);
        due("nothing has changed", x.deed(0, 2), 0);
    }

    private static void p19NoneDoes() {
        says(19, "NONE when none does, there is none such, or for others");
        FedStatues x = of("statue s at 0;dish d costs 2 warm 1;deed s d 3;eater e hunger 4 at 0;eater f hunger 1 at 50;fund 7 grows 0;");
        due("8 coins are not there", x.feeds(0, 0), NONE);
        due("8 coins are not there, deed", x.feeds(0, 1), NONE);
        due("too far off", x.feeds(1, 0), NONE);
        x.give(1);
        due("8 coins", x.feeds(0, 0), 1);
        noneFor("feeds", e -> x.feeds(e, 0), -1, 2, 8, MIN, MAX);
        noneFor("feeds deed", e -> x.feeds(e, 1), -1, 2, 8, MIN, MAX);
        noneFor("feeds what", what -> x.feeds(0, what), -1, 2, 3, MIN, MAX);
        x.change(0, 4);
        due("fed", x.feeds(0, 0), 0);
        noneFor("feeds what when fed", what -> x.feeds(0, what), -1, 2, 3, MIN, MAX);
        due("without deeds", of("eater e hunger 1 at 0;").feeds(0, 0), NONE);
        FedStatues y = full();
        noneFor("full feeds", e -> y.feeds(e, 0), 7, 8);
    }

    // ---- who came, who rests where

    private static void p20Rows() {
        says(20, "The tape (it goes) tells SEEN, 1 to 16 rows of two bytes (portions 0 .. 9): how many rows");
        for (int rows = 1; rows <= 16; rows++) {
            FedStatues x = full();
            int[] told = new int[2 * rows];
            for (int r = 0; r < rows; r++) {
                told[2 * r] = r;
                told[2 * r + 1] = 9;
            }
            tape(x, told);
            due("rows", x.seen(), rows);
            tapeGone("seen", x);
            due("nobody came, or those who have left so much", x.came(0) >= 1, true);
        }
        FedStatues x = full();
        for (int portions = 0; portions <= 9; portions++) {
            tape(x, 15, portions);
            due("portions " + portions, x.seen(), 1);
        }
        tape(x, new int[32]);
        due("sixteen of one deed", x.seen(), 16);
    }

    private static void p20NoneSuch() {
        says(20, "NONE, refused (5), all staying, when it is none such");
        int[][] bad = {{}, {0}, {0, 0, 0}, {0, 10}, {0, 255}, {0, 128}, {3, 0}, {16, 0}, {255, 0}, {128, 0}, {0, 0, 3, 0}, {0, 0, 1, 10}, new int[33], new int[34], new int[1600]};
        for (int[] each : bad) {
            FedStatues x = busy();
            refused(5, "seen of " + Arrays.toString(each), x, () -> {
                tape(x, each);
                return x.seen();
            });
            tapeGone("seen of none such", x);
        }
        FedStatues y = new FedStatues();
        tape(y, 0, 0);
        due("without deeds", y.seen(), NONE);
        due("counted", y.status(5), 1);
    }

    private static void p21NothingSeen() {
        says(21, "CAME (all sets, if nothing is SEEN): how many sets (what 0), who in all of them, as bits (1; 0 without), in some (2)");
        for (int n = 0; n <= 8; n++) {
            FedStatues x = of("statue s at 0;dish d costs 0 warm 1;deed s d 9;" + many(n, "eater e# hunger 9 at 0;"));
            due("all sets of " + n, x.came(0), 1 << n);
            due("in all of " + n, x.came(1), 0);
            due("in some of " + n, x.came(2), (1 << n) - 1);
            tape(x, 0, 0);
            x.seen();
            due("sets but nobody of " + n, x.came(0), (1 << n) - 1);
            due("in all but nobody of " + n, x.came(1), n == 1 ? 1 : 0);
            tape(x, 0, 9);
            x.seen();
            due("nobody of " + n, x.came(0), 1);
            due("nobody in all of " + n, x.came(1), 0);
            due("nobody in some of " + n, x.came(2), 0);
            tape(x, 0, 5);
            x.seen();
            due("no set of " + n, x.came(0), 0);
            due("0 without of " + n, x.came(1), 0);
            due("none in some of " + n, x.came(2), 0);
        }
    }

    private static void p21Others() {
        says(21, "NONE for others");
        FedStatues x = busy();
        noneFor("came", x::came, -1, 3, 4, MIN, MAX);
        noneFor("came with nothing seen", of(TOWN)::came, -1, 3, 4, MIN, MAX);
        noneFor("came without eaters", new FedStatues()::came, -1, 3, 4, MIN, MAX);
    }

    private static void p22Without() {
        says(22, "NONE without STATUES, or when there is none such");
        FedStatues x = of("dish d costs 0 warm 1;eater e hunger 1 at 0;");
        noneFor("without statues", x::rest, NONE, 0, 1, MIN, MAX);
        FedStatues y = of(TOWN);
        due("the round", y.rest(NONE), 2);
        due("the first", y.rest(0), 1);
        due("the last", y.rest(1), 0);
        noneFor("rest", y::rest, -2, 2, 8, MIN, MAX);
        FedStatues z = of("statue s at 0;");
        due("without eaters nobody takes another one", z.rest(NONE), 1);
        noneFor("without eaters", z::rest, 0, 1, -2);
        FedStatues w = full();
        due("the eighth", w.rest(7) >= 0, true);
        noneFor("full rest", w::rest, 8, -2);
    }

    /** A statue with a dish of its own for each portions, an eater for each row of how he likes these. */
    private static String shares(int[] portions, int[]... likes) {
        StringBuilder text = new StringBuilder();
        for (int s = 0; s < portions.length; s++) {
            text.append("statue s# at 0;dish d# costs 0 warm 1;deed s# d# ".replace('#', (char) ('a' + s))).append(portions[s]).append(';');
        }
        for (int e = 0; e < likes.length; e++) {
            text.append("eater e# hunger 1 at 0;".replace('#', (char) ('a' + e)));
            for (int s = 0; s < portions.length; s++) {
                text.append("likes e").append((char) ('a' + e)).append(" d").append((char) ('a' + s)).append(' ').append(likes[e][s]).append(';');
            }
        }
        return text.toString();
    }

    private static void p22WhichRound() {
        says(22, "in which round nobody took another one (eater NONE; 13 if 12 were not enough), the STATUE of an EATER then");
        due("the first", of(shares(new int[] {9, 9}, new int[] {9, 9})).rest(NONE), 1);
        due("the second", of(shares(new int[] {8, 9}, new int[] {9, 9})).rest(NONE), 2);
        due("the second, his statue", of(shares(new int[] {8, 9}, new int[] {9, 9})).rest(0), 1);
        // the first goes to b (25 by two is less than 13), the second to b from there; then the first is better off at a
        FedStatues x = of(shares(new int[] {1, 1}, new int[] {25, 13}, new int[] {10, 99}));
        due("the third", x.rest(NONE), 3);
        due("the third, the first eater", x.rest(0), 0);
        due("the third, the second eater", x.rest(1), 1);
        // More than ten rounds were not found in a long search; a share only grows by a step, so all come to rest.
        FedStatues y = of(shares(new int[] {4, 4, 5}, new int[] {65, 90, 92}, new int[] {87, 29, 98}, new int[] {30, 15, 34}, new int[] {67, 19, 55}, new int[] {76, 13, 63},
            new int[] {46, 49, 63}, new int[] {32, 48, 66}, new int[] {66, 76, 80}));
        due("the eighth", y.rest(NONE), 8);
        int[] rest = {1, 2, 2, 0, 0, 2, 2, 1};
        for (int e = 0; e < 8; e++) {
            due("the eighth, statue of " + e, y.rest(e), rest[e]);
        }
        FedStatues z = of(shares(new int[] {7, 2, 8, 8}, new int[] {43, 88, 76, 13}, new int[] {17, 81, 99, 50}, new int[] {72, 34, 87, 12}, new int[] {80, 16, 94, 67},
            new int[] {50, 26, 12, 36}, new int[] {94, 89, 99, 72}, new int[] {22, 18, 67, 60}, new int[] {6, 19, 88, 67}));
        due("the tenth", z.rest(NONE), 10);
    }

    // ---- acts

    private static void p23SoManyDays() {
        says(23, "n DAYS come (1 .. 100), without DRAWS: how many portions were eaten");
        FedStatues x = of("statue s at 0;dish d costs 0 warm 1;deed s d 2;eater e hunger 3 at 0;siege 100;");
        due("1", x.days(1), 2);
        due("100", x.days(100), 200);
        due("day", x.has(4), 101);
        due("no draws", x.has(12), 1);
        due("no more kept than of a day", x.has(10), 2);
        due("full", full().days(1), 144);
        due("an empty city", new FedStatues().days(100), 0);
    }

    private static void p23CannotBe() {
        says(23, "NONE, refused (2), when it can't be (beyond DAY 9999)");
        for (int n : new int[] {0, -1, 101, 102, MIN, MAX}) {
            FedStatues x = busy();
            refused(2, "days(" + n + ")", x, () -> x.days(n));
        }
        int[][] last = {{9899, 100}, {9900, 99}, {9998, 1}, {9999, 0}};
        for (int[] each : last) {
            FedStatues x = busy();
            on(x, image(each[0], 5, 0, 0, 0));
            refused(2, "days beyond from " + each[0], x, () -> x.days(each[1] + 1));
            refused(2, "days(100) or beyond from " + each[0], x, () -> x.days(each[1] == 100 ? 101 : 100));
            if (each[1] > 0) {
                due("up to it from " + each[0], x.days(each[1]), 0);
                due("the last day", x.has(4), 9999);
            }
        }
    }

    private static void p24OneAct() {
        says(24, "n DAYS by the seed (1 .. 100), one ACT: how many sieges there were");
        FedStatues x = of("siege 100;");
        due("1", x.chance(1), 1);
        due("one act", x.has(11), 1);
        due("100", x.chance(100), 100);
        due("two acts", x.has(11), 2);
        due("day", x.has(4), 101);
        due("undone at once", x.undo(), true);
        due("day 1", x.has(4), 1);
        FedStatues y = of("siege 0;");
        due("none", y.chance(100), 0);
        due("drawn all the same", y.has(12) != 1, true);
    }

    private static void p24CannotBe() {
        says(24, "NONE, refused (2), when it can't be");
        for (int n : new int[] {0, -1, 101, 102, MIN, MAX}) {
            FedStatues x = busy();
            refused(2, "chance(" + n + ")", x, () -> x.chance(n));
        }
        int[][] last = {{9899, 100}, {9900, 99}, {9998, 1}, {9999, 0}};
        for (int[] each : last) {
            FedStatues x = busy();
            on(x, image(each[0], 5, 0, 0, 0));
            refused(2, "chance beyond from " + each[0], x, () -> x.chance(each[1] + 1));
            if (each[1] > 0) {
                due("up to it from " + each[0], x.chance(each[1]) >= 0, true);
                due("the last day", x.has(4), 9999);
            }
        }
    }

    private static void p25SoManyCoins() {
        says(25, "So many coins (1 .. 9999) are given to the fund: what it has then; NONE, refused (3), when that can't be, or it would have more than 999999");
        FedStatues x = of("fund 0 grows 0;");
        due("1", x.give(1), 1);
        due("9999", x.give(9999), 10000);
        for (int coins : new int[] {0, -1, 10000, MIN, MAX, MAX - 10000}) {
            FedStatues y = busy();
            refused(3, "give(" + coins + ")", y, () -> y.give(coins));
        }
        FedStatues y = busy();
        on(y, image(5, 990000, 1, 1, 1));
        due("up to 999999", y.give(9999), 999999);
        refused(3, "one more", y, () -> y.give(1));
        y.undo();
        y.give(1);
        refused(3, "9999 more than 990001", y, () -> y.give(9999));
        due("9998 more", y.give(9998), 999999);
    }

    private static void p26SoManyPortions() {
        says(26, "A DEED tells so many portions (0 .. 9): what it told; NONE, refused (3), when that can't be");
        FedStatues x = of(TOWN);
        due("to 0", x.change(0, 0), 3);
        due("to 9", x.change(0, 9), 0);
        due("to the same", x.change(0, 9), 9);
        due("the last", x.change(2, 4), 1);
        due("others stay", x.deed(1, 2), 2);
        for (int portions : new int[] {-1, 10, 255, MIN, MAX}) {
            FedStatues y = busy();
            refused(3, "change(0, " + portions + ")", y, () -> y.change(0, portions));
        }
        for (int deed : new int[] {-1, 3, 15, 16, MIN, MAX}) {
            FedStatues y = busy();
            refused(3, "change(" + deed + ", 1)", y, () -> y.change(deed, 1));
        }
        FedStatues z = full();
        due("the sixteenth", z.change(15, 0), 9);
        refused(3, "the seventeenth", z, () -> z.change(16, 0));
        FedStatues none = new FedStatues();
        refused(3, "without deeds", none, () -> none.change(0, 0));
    }

    private static void p27AsItWas() {
        says(27, "The latest ACT is undone: all is as it was ahead of it (but the seed): true");
        IntSupplier[] acts = new IntSupplier[4];
        for (int act = 0; act < 4; act++) {
            FedStatues x = busy();
            acts[0] = () -> x.days(100);
            acts[1] = () -> x.chance(100);
            acts[2] = () -> x.give(9999);
            acts[3] = () -> x.change(0, 9);
            String before = allOf(x);
            due("act " + act, acts[act].getAsInt() >= 0, true);
            int seed = x.has(12);
            due("another state by " + act, allOf(x).equals(before), false);
            due("undo", x.undo(), true);
            due("the seed of " + act, x.has(12), seed);
            x.seed(Integer.parseInt(before.split(" ")[13]));
            same("all behind undo of " + act, allOf(x), before);
        }
        FedStatues y = of(TOWN);
        y.days(1);
        String kept = allOf(y);
        y.change(0, 0);
        y.days(1);
        due("other portions are kept", y.kept(0, 1), 1);
        y.undo();
        y.undo();
        same("the portions kept ahead of it", allOf(y), kept);
    }

    private static void p27NoneCanBe() {
        says(27, "false, refused (4), when none can be");
        FedStatues x = new FedStatues();
        refusedToo(4, "undo of a new one", x, x::undo);
        x.give(1);
        due("undo", x.undo(), true);
        refusedToo(4, "undo again", x, x::undo);
        FedStatues y = busy();
        for (int i = 0; i < 4; i++) {
            due("undo " + i, y.undo(), true);
        }
        refusedToo(4, "undo of all", y, y::undo);
        for (int i = 0; i < 21; i++) {
            y.give(1);
        }
        for (int i = 0; i < 20; i++) {
            due("undo of twenty " + i, y.undo(), true);
        }
        refusedToo(4, "undo of the 21st", y, y::undo);
        due("its coin stays", y.has(5), 21);
        FedStatues z = busy();
        on(z, image(0, 0, 1, 1, 1));
        refusedToo(4, "undo behind on()", z, z::undo);
        city(z, TOWN);
        refusedToo(4, "undo behind city()", z, z::undo);
    }

    private static void p28BelowNought() {
        says(28, "The seed: true; false, refused (5), when it is below 0");
        FedStatues x = busy();
        for (int seed : new int[] {0, 1, MAX - 1, MAX}) {
            due("seed(" + seed + ")", x.seed(seed), true);
            due("has", x.has(12), seed);
        }
        for (int seed : new int[] {-1, -2, MIN, MIN + 1}) {
            FedStatues y = busy();
            refusedToo(5, "seed(" + seed + ")", y, () -> y.seed(seed));
        }
        int acts = x.has(11);
        x.seed(3);
        due("no act", x.has(11), acts);
    }

    private static void p29NoneSuch() {
        says(29, "Of the k-th portion that is told as KEPT: 0 EATER, 1 DEED. NONE when there is none such, or for others");
        FedStatues x = of(TOWN);
        noneFor("nothing kept", k -> x.kept(k, 0), -1, 0, 1, MIN, MAX);
        x.days(1);
        // from 0: 10 at a, 12 less 9 for f: all of a, then f, f, d at 9
        int[] deeds = {0, 0, 0, 1, 1, 2};
        due("kept", x.has(10), 6);
        for (int k = 0; k < 6; k++) {
            due("eater " + k, x.kept(k, 0), 0);
            due("deed " + k, x.kept(k, 1), deeds[k]);
        }
        noneFor("kept k", k -> x.kept(k, 0), -1, 6, 7, 160, MIN, MAX);
        noneFor("kept deed k", k -> x.kept(k, 1), -1, 6, 7, 160, MIN, MAX);
        noneFor("kept what", what -> x.kept(0, what), -1, 2, 3, MIN, MAX);
        FedStatues y = full();
        y.days(1);
        due("the last of 144", y.kept(143, 0), 7);
        due("the last of 144, deed", y.kept(143, 1), 15);
        noneFor("full", k -> y.kept(k, 0), 144, 159, 160);
        x.change(0, 0);
        x.change(1, 0);
        x.change(2, 0);
        due("acts that are no days leave it", x.has(10), 6);
        x.days(1);
        due("nothing eaten", x.has(10), 0);
        noneFor("nothing kept of a lean day", k -> x.kept(k, 0), 0);
    }

    // ---- images, refusals

    private static void p30HowMany() {
        says(30, "AN IMAGE is written: how many bytes");
        due("without deeds", new FedStatues().image(), 6);
        due("of three", of(TOWN).image(), 9);
        FedStatues x = full();
        due("of sixteen", x.image(), 22);
        due("again", x.image(), 22);
        due("no act", x.has(11), 0);
        city(x, "");
        due("without again", x.image(), 6);
        due("no more bytes than that", x.octet(6), NONE);
    }

    private static void p31NoneSuch() {
        says(31, "Byte k of the latest image(); NONE when there is none such");
        FedStatues x = of(TOWN);
        noneFor("ahead of any", x::octet, -1, 0, 5, 8, 9, MIN, MAX);
        due("image", x.image(), 9);
        int[] want = image(0, 20, 3, 2, 1);
        for (int k = 0; k < 9; k++) {
            due("byte " + k, x.octet(k), want[k]);
        }
        noneFor("octet", x::octet, -1, 9, 10, 22, MIN, MAX);
        x.days(1);
        x.change(0, 9);
        for (int k = 0; k < 9; k++) {
            due("the latest, byte " + k, x.octet(k), want[k]);
        }
        x.undo();
        due("still the latest", x.octet(4), 20);
        FedStatues y = full();
        y.image();
        due("the last of 22", y.octet(21) >= 0, true);
        noneFor("full octet", y::octet, 22, 23);
    }

    private static void p32AllAsItTells() {
        says(32, "The tape (it goes) is AN IMAGE of this CITY: true, all is as it tells, nothing is KEPT, no ACT can be undone");
        int[][] told = {{0, 0, 0, 0, 0}, {9999, 999999, 9, 9, 9}, {256, 65536, 1, 0, 9}, {255, 65535, 9, 1, 0}};
        for (int[] each : told) {
            FedStatues x = busy();
            int seed = x.has(12);
            due("on", on(x, image(each[0], each[1], each[2], each[3], each[4])), true);
            due("day", x.has(4), each[0]);
            due("fund", x.has(5), each[1]);
            for (int d = 0; d < 3; d++) {
                due("deed " + d, x.deed(d, 2), each[2 + d]);
            }
            due("nothing kept", x.has(10), 0);
            due("nothing kept at all", x.kept(0, 0), NONE);
            due("no acts", x.has(11), 0);
            due("no undo", x.undo(), false);
            due("the seed", x.has(12), seed);
            tapeGone("an image", x);
        }
        FedStatues y = new FedStatues();
        due("without deeds", on(y, image(7, 8)), true);
        due("its day", y.has(4), 7);
        FedStatues z = full();
        due("hunger on a full day", z.later(1, 1), 16);
        due("left on a full day", z.later(1, 2), 0);
        due("broken on a full day", z.later(1, 3), 0);
        due("of sixteen", on(z, image(7, 8, 1, 2, 3, 4, 5, 6, 7, 8, 9, 0, 1, 2, 3, 4, 5, 6)), true);
        due("the sixteenth", z.deed(15, 2), 6);
    }

    private static void p32NoneSuch() {
        says(32, "false, refused (5), all staying, if it is none such (DAY 9999, fund 999999, portions 9 at most)");
        int[] good = image(258, 65539, 0, 9, 4);
        int[][] bad = {{}, {131}, image(1, 1), image(1, 1, 1, 1), image(1, 1, 1, 1, 1, 1), image(10000, 1, 1, 1, 1), image(65535, 1, 1, 1, 1), image(1, 1000000, 1, 1, 1),
            image(1, 16777215, 1, 1, 1), image(1, 1, 10, 1, 1), image(1, 1, 1, 1, 10), image(1, 1, 255, 1, 1), image(1, 1, 1, 128, 1), new int[9], new int[1600],
            Arrays.copyOf(good, 8), Arrays.copyOf(good, 10)};
        for (int[] each : bad) {
            FedStatues x = busy();
            refusedToo(5, "on of " + Arrays.toString(each), x, () -> on(x, each));
            tapeGone("on of none such", x);
        }
        for (int k = 0; k < good.length; k++) {
            FedStatues x = busy();
            int[] spoiled = good.clone();
            spoiled[k] = (spoiled[k] + 1) % 256;
            refusedToo(5, "on with byte " + k + " spoiled", x, () -> on(x, spoiled));
        }
        due("the good one", on(busy(), good), true);
        // the last byte is below 251: 251 more is another one
        for (int coins = 0; coins < 251; coins++) {
            int[] low = image(0, coins, 1, 1, 1);
            if (low[8] < 5) {
                FedStatues x = of(TOWN);
                int[] high = low.clone();
                high[8] += 251;
                due("251 more", on(x, high), false);
                due("as it is", on(x, low), true);
            }
        }
        FedStatues none = new FedStatues();
        refusedToo(5, "on of nothing", none, none::on);
    }

    private static void p33Others() {
        says(33, "How many were refused: 0 feed(), end(); 1 city(); 2 days(), chance(); 3 give(), change(); 4 undo(); 5 seed(), seen(), on(). NONE for others");
        FedStatues x = new FedStatues();
        noneFor("status", x::status, -1, 6, 7, MIN, MAX);
        for (int i = 0; i < 6; i++) {
            due("none refused yet " + i, x.status(i), 0);
        }
        for (int n = 1; n <= 3; n++) {
            x.end(-1);
            city(x, "x");
            x.days(0);
            x.chance(0);
            x.give(0);
            x.change(0, 0);
            x.undo();
            x.seed(-1);
            x.seen();
            x.on();
            int[] each = {1, 1, 2, 2, 1, 3};
            for (int i = 0; i < 6; i++) {
                due("status(" + i + ") behind " + n, x.status(i), n * each[i]);
            }
        }
        for (int i = 0; i < 81; i++) {
            x.feed(0, 0, 0, 0, 0);
        }
        due("feed counts with end", x.status(0), 4);
        int[] before = refusals(x);
        x.end(0);
        x.city();
        x.days(1);
        x.undo();
        noneFor("questions", x::has, -1, 13);
        x.round(5);
        x.keep(-1, 0);
        x.rest(9);
        x.octet(0);
        x.later(61, 0);
        x.fault(2);
        same("what is not refused is not counted", Arrays.toString(refusals(x)), Arrays.toString(before));
    }

    public static void main(String[] args) throws ReflectiveOperationException {
        Method[] tests = Arrays.stream(PromiseBoundaryTests.class.getDeclaredMethods())
            .filter(m -> Modifier.isStatic(m.getModifiers()) && m.getName().matches("p[0-9]{2}.*"))
            .sorted(Comparator.comparing(Method::getName)).toArray(Method[]::new);
        for (Method test : tests) {
            int before = sentences;
            test.invoke(null);
            if (sentences == before) {
                wrong++;
                System.out.println(test.getName() + " tells no sentence");
            }
        }
        for (int promise = 1; promise <= 33; promise++) {
            if (!promised.contains(promise)) {
                wrong++;
                System.out.println("promise " + promise + " has no test");
            }
        }
        System.out.println(sentences + " sentences, " + asked + " answers asked for, " + wrong + " not as due");
        if (wrong != 0) {
            System.exit(1);
        }
    }
}
