import java.nio.charset.StandardCharsets;

/** For each promise of the document: ordinary inputs, its edges, wrong inputs; answers reckoned by hand. */
public final class PromiseTests {
    private static final int NONE = FedStatues.NONE;
    private static int wrong = 0;
    private static int asked = 0;

    private static final String SMALL =
        "statue king at 2;statue nymph at 8;dish soup costs 3 warm 20;dish fig costs 1 warm 9;"
        + "deed king soup 2;deed nymph fig 3;deed king fig 1;eater bob hunger 4 at 5;eater amy hunger 3 at 0;"
        + "likes bob fig 12;fund 20 grows 10;pace 1;siege 30;";
    private static final int SMALL_STATEMENTS = 13;

    private static void due(String what, long got, long want) {
        asked++;
        if (got != want) {
            wrong++;
            System.out.println(what + " answered " + got + ", due is " + want);
        }
    }

    private static void due(String what, boolean got, boolean want) {
        due(what, got ? 1 : 0, want ? 1 : 0);
    }

    private static void tape(FedStatues x, byte[] bytes) {
        x.end(0);
        for (int i = 0; i < bytes.length; i += 20) {
            int[] n = new int[5];
            for (int k = 0; k < 20; k++) {
                int b = i + k < bytes.length ? bytes[i + k] & 255 : 32;
                n[k / 4] = n[k / 4] << 8 | b;
            }
            x.feed(n[0], n[1], n[2], n[3], n[4]);
        }
        x.end(bytes.length);
    }

    private static void tape(FedStatues x, String text) {
        tape(x, text.getBytes(StandardCharsets.ISO_8859_1));
    }

    private static byte[] bytes(int... values) {
        byte[] made = new byte[values.length];
        for (int i = 0; i < values.length; i++) {
            made[i] = (byte) values[i];
        }
        return made;
    }

    private static int city(FedStatues x, String text) {
        tape(x, text);
        return x.city();
    }

    private static FedStatues of(String text) {
        FedStatues x = new FedStatues();
        if (city(x, text) == NONE) {
            wrong++;
            System.out.println("no city (" + x.fault(0) + " at " + x.fault(1) + "): " + text);
        }
        return x;
    }

    private static void fault(String text, int kind, int place) {
        FedStatues x = new FedStatues();
        due("city of " + text, city(x, text), NONE);
        due("fault(0) of " + text, x.fault(0), kind);
        due("fault(1) of " + text, x.fault(1), place);
    }

    private static void good(String text, int statements) {
        FedStatues x = new FedStatues();
        due("city of " + text, city(x, text), statements);
        due("fault(0) of " + text, x.fault(0), 0);
        due("fault(1) of " + text, x.fault(1), NONE);
    }

    private static String times(int n, String text) {
        return text.repeat(n);
    }

    private static void p01NewObject() {
        FedStatues x = new FedStatues();
        int[] has = {0, 0, 0, 0, 0, 100, 0, 1, 0, 0, 0, 0, 1};
        for (int i = 0; i < has.length; i++) {
            due("new has(" + i + ")", x.has(i), has[i]);
        }
        for (int i = 0; i < 6; i++) {
            due("new status(" + i + ")", x.status(i), 0);
        }
        due("new rest", x.rest(NONE), NONE);
        due("new meal", x.meal(0, 0), NONE);
    }

    private static void p02Feed() {
        FedStatues x = new FedStatues();
        due("feed", x.feed(0, 0, 0, 0, 0), 20);
        due("end", x.end(1), true);
        for (int i = 1; i < 80; i++) {
            due("feed " + i, x.feed(i, -1, 2, -3, 4), 1 + 20 * i);
        }
        due("feed above 1600", x.feed(0, 0, 0, 0, 0), NONE);
        due("status(0)", x.status(0), 1);
        due("end to 1580", x.end(1580), true);
        due("feed up to 1600", x.feed(0, 0, 0, 0, 0), 1600);
        due("feed above 1600", x.feed(0, 0, 0, 0, 0), NONE);
        due("status(0)", x.status(0), 2);
        // "pace" " 7; " and blanks: the highest byte comes first
        FedStatues y = new FedStatues();
        y.feed(0x70616365, 0x20373b20, 0x0a0a0a0a, 0x20202020, 0x20202020);
        due("city by feed", y.city(), 1);
        due("pace by feed", y.has(7), 7);
        FedStatues z = new FedStatues();
        y.feed(0, 0, 0, 0, 0);
        z.feed(0xffffffff, 0, 0, 0, 0);
        due("byte 255", z.city(), NONE);
        due("byte 255 at", z.fault(1), 0);
    }

    private static void p03End() {
        FedStatues x = new FedStatues();
        due("end(1) of nothing", x.end(1), false);
        due("end(0) of nothing", x.end(0), true);
        due("end(-1)", x.end(-1), false);
        x.feed(1, 2, 3, 4, 5);
        due("end(21)", x.end(21), false);
        due("end(20)", x.end(20), true);
        due("end(min)", x.end(Integer.MIN_VALUE), false);
        due("end(max)", x.end(Integer.MAX_VALUE), false);
        due("end(3)", x.end(3), true);
        due("end(4)", x.end(4), false);
        due("feed behind 3", x.feed(1, 2, 3, 4, 5), 23);
        // what stood behind the end is gone
        FedStatues y = new FedStatues();
        tape(y, "pace 5;fund 12345678");
        y.end(14);
        due("cut behind 12", y.city(), NONE);
        due("cut behind 12, at", y.fault(1), 14);
        tape(y, "statue abcdefgh");
        y.end(8);
        due("cut behind a", y.city(), NONE);
        due("cut behind a, at", y.fault(1), 8);
        due("status(0)", x.status(0), 6);
    }

    private static void p04City() {
        FedStatues x = of(SMALL);
        due("statements", city(x, SMALL), SMALL_STATEMENTS);
        due("tape goes", x.feed(0, 0, 0, 0, 0), 20);
        x.seed(77);
        x.days(2);
        x.change(0, 5);
        tape(x, bytes(0, 0));
        x.seen();
        due("a fault", city(x, "statue"), NONE);
        due("tape goes with a fault", x.feed(0, 0, 0, 0, 0), 20);
        due("day stays", x.has(4), 2);
        due("acts stay", x.has(11), 2);
        due("deed stays", x.deed(0, 2), 5);
        due("statues stay", x.has(0), 2);
        due("status(1)", x.status(1), 1);
        due("anew", city(x, SMALL), SMALL_STATEMENTS);
        due("day 0", x.has(4), 0);
        due("fund", x.has(5), 20);
        due("nothing kept", x.has(10), 0);
        due("no acts", x.has(11), 0);
        due("nothing seen", x.came(0), 4);
        due("seed stays", x.has(12), 77);
        due("told as at first", x.deed(0, 2), 2);
        due("undo", x.undo(), false);
        due("empty city", city(x, ""), 0);
        due("no statues", x.has(0), 0);
        due("fund without", x.has(5), 100);
        due("likes go", city(x, "dish fig costs 1 warm 1;eater bob hunger 1 at 0;"), 2);
        due("likes without", x.eater(0, 10), 10);
        good(" \n ", 0);
        good(times(80, "pace 1;"), 80);
        good("\npace\n2\n;pace 3;fund 0 grows 0;fund 9999 grows 100;siege 100;siege 0;", 6);
        FedStatues y = of("fund 5 grows 6;fund 0007 grows 0008;pace 20;pace 3;siege 9;siege 0100;");
        due("last fund", y.has(5), 7);
        due("last grows", y.has(6), 8);
        due("last pace", y.has(7), 3);
        due("last siege", y.has(8), 100);
    }

    private static void p05Fault() {
        FedStatues x = new FedStatues();
        due("fault(0) ahead", x.fault(0), 0);
        due("fault(1) ahead", x.fault(1), NONE);
        due("fault(2)", x.fault(2), NONE);
        due("fault(-1)", x.fault(-1), NONE);
        city(x, "pace 21;");
        due("fault(0)", x.fault(0), 4);
        due("fault(1)", x.fault(1), 5);
        city(x, "pace 20;");
        due("fault(0) again without", x.fault(0), 0);
        due("fault(1) again without", x.fault(1), NONE);
        faultsOfSyntax();
        faultsOfNames();
        faultsOfNumbers();
        faultsOfDepth();
        faultsOfMany();
    }

    private static void faultsOfSyntax() {
        fault(";", 1, 0);
        fault("#", 1, 0);
        fault("x", 1, 0);
        fault("Statue a at 0;", 1, 0);
        fault("statux a", 1, 0);
        fault("statuexyz", 1, 6);
        fault("at 5;", 1, 0);
        fault("5;", 1, 0);
        fault("statue", 1, 6);
        fault("statue  ", 1, 8);
        fault("statue a", 1, 8);
        fault("statue a at", 1, 11);
        fault("statue a at 1", 1, 13);
        fault("statue a at 1 \n", 1, 15);
        fault("statue 5", 1, 7);
        fault("statue a in 1;", 1, 9);
        fault("statue a at x;", 1, 12);
        fault("statue a at1;", 1, 11);
        fault("statue a at 1 1;", 1, 14);
        fault("statue a at 12345;", 1, 16);
        fault("statue 12345", 1, 11);
        fault("pace abcdefgh;", 1, 11);
        fault("pace 99999;", 1, 9);
        fault("deed abcdefg", 1, 11);
        fault("statue max at 1;", 1, 7);
        fault("deed all", 1, 5);
        fault("likes not", 1, 6);
        fault("dish a costs 1warm 2;", 1, 14);
        fault("dish a warm 2;", 1, 7);
        fault("fund 5 5;", 1, 7);
        fault("fund ;", 1, 5);
        fault("pace ;", 1, 5);
        fault("siege ;", 1, 6);
        fault("fund grows 5;", 1, 5);
        fault("pace 1;;", 1, 7);
        fault("pace 1,", 1, 6);
        fault("pace\t1;", 1, 4);
        fault("pace \u00e9;", 1, 5);
        faultsOfSums();
    }

    private static void faultsOfSums() {
        fault("leaves;", 1, 6);
        fault("leaves 1*;", 1, 9);
        fault("leaves if(all or,1,2);", 1, 16);
        fault("leaves if(all or 1,1,2);", 1, 18);
        fault("leaves off;", 1, 7);
        fault("leaves hunger;", 1, 7);
        fault("leaves left;", 1, 7);
        fault("leaves all;", 1, 7);
        fault("leaves x;", 1, 7);
        fault("draws told;", 1, 6);
        fault("draws costs;", 1, 6);
        fault("draws siege;", 1, 6);
        fault("leaves -1;", 1, 7);
        fault("leaves 1+;", 1, 9);
        fault("leaves 1 1;", 1, 9);
        fault("leaves 1told;", 1, 8);
        fault("leaves (1;", 1, 9);
        fault("leaves 1);", 1, 8);
        fault("leaves min(1;", 1, 12);
        fault("leaves min(1,2,3);", 1, 14);
        fault("leaves min 1;", 1, 11);
        fault("leaves max", 1, 10);
        fault("leaves if(1,2,3);", 1, 11);
        fault("leaves if(1=1,2);", 1, 15);
        fault("leaves if(1=1=1,2,3);", 1, 13);
        fault("leaves if((1=1),2,3);", 1, 12);
        fault("leaves if([1],2,3);", 1, 12);
        fault("leaves if([1=1,2,3);", 1, 14);
        fault("leaves if(not1=1,2,3);", 1, 13);
        fault("leaves if(1=1or 1=1,2,3);", 1, 13);
        fault("leaves if(all all,2,3);", 1, 14);
        fault("leaves if(all and,2,3);", 1, 17);
        fault("leaves if(all,2,3", 1, 17);
        fault("leaves 1<2;", 1, 8);
        good("leaves if(not all or 1<2 and[3>2 or 2=2],told,rank%costs/siege*day-fund+1);", 1);
        good("draws if ( [ all ] , likes , max ( off , min ( hunger , left ) ) ) + day*fund;", 1);
    }

    private static void faultsOfNames() {
        fault("statue a at 0;statue a at 1;", 2, 21);
        fault("dish a costs 0 warm 1;eater a", 2, 28);
        fault("eater a hunger 1 at 0;statue a", 2, 29);
        good("statue a at 0;statue aa at 1;dish aaaaaa costs 0 warm 1;", 3);
        fault("deed a", 3, 5);
        fault("dish a costs 1 warm 1;deed a a 1;", 3, 27);
        fault("statue s at 0;deed s s 1;", 3, 21);
        fault("statue s at 0;deed s t 1;", 3, 21);
        fault("statue s at 0;dish d costs 1 warm 1;deed s d 1;deed s d 2;", 3, 54);
        fault("eater e hunger 1 at 0;likes e e", 3, 30);
        fault("statue s at 0;likes s", 3, 20);
        good("statue s at 0;statue t at 0;dish d costs 1 warm 1;deed s d 1;deed t d 1;", 5);
        // a fault of the name comes ahead of what stands right behind it
        fault("deed a1", 3, 5);
    }

    private static void faultsOfNumbers() {
        fault("statue a at 100;", 4, 12);
        good("statue a at 99;", 1);
        fault("dish d costs 100 warm 1;", 4, 13);
        fault("dish d costs 99 warm 0;", 4, 21);
        fault("dish d costs 99 warm 1000;", 4, 21);
        good("dish d costs 99 warm 999;", 1);
        fault("statue s at 0;dish d costs 1 warm 1;deed s d 0;", 4, 45);
        fault("statue s at 0;dish d costs 1 warm 1;deed s d 10;", 4, 45);
        good("statue s at 0;dish d costs 1 warm 1;deed s d 9;", 3);
        fault("eater e hunger 0 at 1;", 4, 15);
        fault("eater e hunger 21 at 1;", 4, 15);
        fault("eater e hunger 20 at 100;", 4, 21);
        fault("dish d costs 1 warm 1;eater e hunger 20 at 99;likes e d 100;", 4, 56);
        good("dish d costs 1 warm 1;eater e hunger 20 at 99;likes e d 99;likes e d 0;", 4);
        fault("fund 1 grows 101;", 4, 13);
        fault("pace 0;", 4, 5);
        fault("pace 21;", 4, 5);
        fault("siege 101;", 4, 6);
        fault("pace 99x", 4, 5);
        good("leaves 9999;draws 0000;", 2);
    }

    private static void faultsOfDepth() {
        good("leaves " + times(7, "(") + "1" + times(7, ")") + ";", 1);
        fault("leaves " + times(8, "("), 5, 14);
        good("leaves " + times(7, "(") + "1" + times(7, ")") + "+(1);", 1);
        fault("leaves " + times(7, "min(1,") + "min(", 5, 7 + 42 + 3);
        good("leaves if(" + times(6, "not ") + "all,1,2);", 1);
        fault("leaves if(" + times(7, "not "), 5, 10 + 24);
        good("leaves if(" + times(6, "not ") + "1=1 and " + times(6, "not ") + "all,1,2);", 1);
        for (String each : new String[] {"min(@,1)", "min(1,@)", "max(@,1)", "max(1,@)", "if(all,@,1)", "if(all,1,@)", "if(@=1,1,2)",
            "if(1=@,1,2)", "if([all and @=1],1,2)", "if(not @<1,1,2)"}) {
            int own = each.contains("[") || each.contains("not") ? 2 : 1;
            good("leaves " + each.replace("@", times(7 - own, "(") + "1" + times(7 - own, ")")) + ";", 1);
            fault("leaves " + each.replace("@", times(8 - own, "(")), 5, 7 + each.indexOf('@') + 7 - own);
        }
        fault("leaves if(" + times(7, "["), 5, 16);
        fault("leaves if([not if([(max((1", 5, 24);
        fault("leaves if(not [not [not [(1+(2", 5, 25);
        fault("leaves " + times(7, "(") + "if 1", 1, 17);
        // what can't stand there is fault 1, however deep
        fault("leaves " + times(7, "(") + "[", 1, 14);
        fault("leaves " + times(7, "(") + "not", 1, 14);
    }

    private static void faultsOfMany() {
        String names = "abcdefghi";
        StringBuilder statues = new StringBuilder();
        StringBuilder dishes = new StringBuilder();
        StringBuilder eaters = new StringBuilder();
        for (int i = 0; i < 8; i++) {
            statues.append("statue s").append(names.charAt(i)).append(" at ").append(i).append(';');
            dishes.append("dish d").append(names.charAt(i)).append(" costs 1 warm 1;");
            eaters.append("eater e").append(names.charAt(i)).append(" hunger 1 at 1;");
        }
        good(statues.toString() + dishes + eaters, 24);
        fault(statues + "statue", 6, statues.length());
        fault(dishes + " dish", 6, dishes.length() + 1);
        fault(eaters + "\neater sa", 6, eaters.length() + 1);
        StringBuilder deeds = new StringBuilder(statues.toString() + dishes);
        for (int i = 0; i < 16; i++) {
            deeds.append("deed s").append(names.charAt(i / 4)).append(" d").append(names.charAt(i % 4)).append(" 1;");
        }
        good(deeds.toString(), 32);
        fault(deeds + "deed", 6, deeds.length());
        fault("leaves 1;leaves", 6, 9);
        fault("draws 1;pace 1;draws", 6, 15);
        good("draws 1;leaves 1;", 2);
        fault(times(80, "pace 1;") + "pace 1;", 6, 560);
        fault(times(80, "pace 1;") + " fund", 6, 561);
        fault(times(80, "pace 1;") + "nosuch", 6, 560);
        good(times(80, "pace 1;") + " \n", 80);
    }

    private static void p06Has() {
        FedStatues x = of(SMALL);
        int[] has = {2, 2, 3, 2, 0, 20, 10, 1, 30, 6, 0, 0, 1};
        for (int i = 0; i < has.length; i++) {
            due("has(" + i + ")", x.has(i), has[i]);
        }
        due("has(13)", x.has(13), NONE);
        due("has(-1)", x.has(-1), NONE);
        x.change(2, 9);
        due("has(9) changed", x.has(9), 14);
        due("has(11) changed", x.has(11), 1);
    }

    private static void p07Letter() {
        FedStatues x = of("statue a at 0;dish zyx costs 1 warm 1;eater abcxyz hunger 1 at 1;");
        due("a", x.letter(0, 0, 0), 1);
        due("behind a", x.letter(0, 0, 1), 0);
        due("behind a, 5", x.letter(0, 0, 5), 0);
        due("z", x.letter(1, 0, 0), 26);
        due("x", x.letter(1, 0, 2), 24);
        due("behind zyx", x.letter(1, 0, 3), 0);
        int[] letters = {1, 2, 3, 24, 25, 26};
        for (int k = 0; k < 6; k++) {
            due("letter " + k, x.letter(2, 0, k), letters[k]);
        }
        due("k 6", x.letter(2, 0, 6), NONE);
        due("k -1", x.letter(2, 0, -1), NONE);
        due("which 1", x.letter(2, 1, 0), NONE);
        due("which -1", x.letter(2, -1, 0), NONE);
        due("kind 3", x.letter(3, 0, 0), NONE);
        due("kind -1", x.letter(-1, 0, 0), NONE);
    }

    private static void p08Statue() {
        FedStatues x = of(SMALL + "statue bare at 99;");
        int[][] want = {{2, 2, 3, 9}, {8, 1, 3, 9}, {99, 0, 0, 0}};
        for (int s = 0; s < 3; s++) {
            for (int w = 0; w < 4; w++) {
                due("statue(" + s + "," + w + ")", x.statue(s, w), want[s][w]);
            }
        }
        due("statue(3,0)", x.statue(3, 0), NONE);
        due("statue(-1,0)", x.statue(-1, 0), NONE);
        due("statue(0,4)", x.statue(0, 4), NONE);
        due("statue(0,-1)", x.statue(0, -1), NONE);
        x.change(0, 0);
        due("warm by one deed", of("statue s at 0;dish d costs 1 warm 7;deed s d 1;").statue(0, 3), 7);
        due("deeds stay", x.statue(0, 1), 2);
        due("portions change", x.statue(0, 2), 1);
    }

    private static void p09Dish() {
        FedStatues x = of(SMALL);
        int[][] want = {{3, 20, 2}, {1, 9, 4}};
        for (int d = 0; d < 2; d++) {
            for (int w = 0; w < 3; w++) {
                due("dish(" + d + "," + w + ")", x.dish(d, w), want[d][w]);
            }
        }
        due("dish(2,0)", x.dish(2, 0), NONE);
        due("dish(-1,0)", x.dish(-1, 0), NONE);
        due("dish(0,3)", x.dish(0, 3), NONE);
        due("dish(0,-1)", x.dish(0, -1), NONE);
        x.change(1, 9);
        due("dish changed", x.dish(1, 2), 10);
    }

    private static void p10Deed() {
        FedStatues x = of(SMALL);
        int[][] want = {{0, 0, 2, 2}, {1, 1, 3, 3}, {0, 1, 1, 1}};
        for (int d = 0; d < 3; d++) {
            for (int w = 0; w < 4; w++) {
                due("deed(" + d + "," + w + ")", x.deed(d, w), want[d][w]);
            }
        }
        x.change(1, 0);
        due("now", x.deed(1, 2), 0);
        due("at first", x.deed(1, 3), 3);
        due("deed(3,0)", x.deed(3, 0), NONE);
        due("deed(-1,0)", x.deed(-1, 0), NONE);
        due("deed(0,4)", x.deed(0, 4), NONE);
        due("deed(0,-1)", x.deed(0, -1), NONE);
    }

    private static void p11Eater() {
        FedStatues x = of(SMALL);
        due("hunger", x.eater(0, 0), 4);
        due("sleeps", x.eater(0, 1), 5);
        due("likes soup", x.eater(0, 10), 10);
        due("likes fig", x.eater(0, 11), 12);
        due("no dish", x.eater(0, 12), NONE);
        due("amy", x.eater(1, 0), 3);
        due("amy sleeps", x.eater(1, 1), 0);
        due("what 2", x.eater(0, 2), NONE);
        due("what 9", x.eater(0, 9), NONE);
        due("what -1", x.eater(0, -1), NONE);
        due("what min", x.eater(0, Integer.MIN_VALUE), NONE);
        due("what max", x.eater(0, Integer.MAX_VALUE), NONE);
        due("eater 2", x.eater(2, 0), NONE);
        due("eater -1", x.eater(-1, 0), NONE);
        FedStatues y = of(SMALL + "likes bob fig 3;likes bob fig 4;");
        due("the last likes", y.eater(0, 11), 4);
    }

    private static void p12Plate() {
        FedStatues x = of(SMALL);
        int[] put = {2, 3, 1};
        for (int d = 0; d < 3; d++) {
            due("put " + d, x.plate(d, 0), put[d]);
            due("left " + d, x.plate(d, 1), 0);
            due("broken " + d, x.plate(d, 2), 0);
        }
        due("plate(3,0)", x.plate(3, 0), NONE);
        due("plate(-1,0)", x.plate(-1, 0), NONE);
        due("plate(0,3)", x.plate(0, 3), NONE);
        due("plate(0,-1)", x.plate(0, -1), NONE);
        // 20 coins: 9 soups can't be paid, the next ones are tried
        x.change(0, 9);
        due("broken", x.plate(0, 2), 1);
        due("nothing put", x.plate(0, 0), 0);
        due("the next one", x.plate(1, 0), 3);
        x.undo();
        due("undone", x.plate(0, 0), 2);
        x.change(0, 9);
        x.change(0, 6);
        due("18 coins of 20", x.plate(0, 0), 6);
        due("2 are not 3", x.plate(1, 2), 1);
        due("2 are 1", x.plate(2, 0), 1);
        sums();
    }

    /** What leaves leaves of a deed: 9 told, rank 1, for 2 coins each, with a fund of 60 on day 0. */
    private static void leaves(String sum, int want) {
        FedStatues x = of("statue s at 0;dish d costs 0 warm 1;dish e costs 2 warm 1;deed s d 1;deed s e 9;fund 60 grows 0;leaves "
            + sum + ";");
        due("leaves " + sum, x.plate(1, 0), want);
    }

    private static void sums() {
        leaves("3", 3);
        leaves("99", 9);
        leaves("0-5", 0);
        leaves("10-3-2", 5);
        leaves("2+3*2", 8);
        leaves("(2+1)*2", 6);
        leaves("8/3*3", 6);
        leaves("7%4*2", 6);
        leaves("0-(0-7)/2", 4);
        leaves("(0-7)%3", 2);
        leaves("7%(0-3)+5", 3);
        leaves("7/(0-2)+9", 5);
        leaves("4/0+5", 5);
        leaves("4%0+6", 6);
        leaves("9999*9999/9999/50", 2);
        leaves("(9999*9999-9999*9999)+4", 4);
        leaves("9999*9999+9999-1000*1000+1", 1);
        leaves("(0-9999)*9999+999*1001+3", 2);
        leaves("(0-9999)*9999-1+1000*1000+3", 3);
        leaves("1000*1000-999*1001", 1);
        leaves("1000*1000+1-999*1001", 1);
        leaves("min(4,7)", 4);
        leaves("max(4,7)", 7);
        leaves("max(min(8,6),1+1)", 6);
        leaves("if(1<2,3,4)", 3);
        leaves("if(2<2,3,4)", 4);
        leaves("if(2>2,3,4)", 4);
        leaves("if(3>2,3,4)", 3);
        leaves("if(2=2,3,4)", 3);
        leaves("if(2=3,3,4)", 4);
        leaves("if(all,3,4)", 3);
        leaves("if(not all,3,4)", 4);
        leaves("if(not not all,3,4)", 3);
        leaves("if(all or all and not all,3,4)", 3);
        leaves("if([all or all]and not all,3,4)", 4);
        leaves("if(not all and all or all,3,4)", 3);
        leaves("if(not[all and not all],3,4)", 3);
        leaves("if(not 1=1 or 1=2,3,4)", 4);
        leaves("told", 9);
        leaves("costs+1", 3);
        leaves("rank+1", 2);
        leaves("siege+5", 5);
        leaves("day+6", 6);
        leaves("fund-54", 6);
        leaves("fund/10", 6);
        // all that can wait at once waits
        String deep = "1*7+1*(";
        String test = "if(1=2 or 1=1 and 1<0+1*(3+";
        StringBuilder text = new StringBuilder("0+1*");
        for (int i = 0; i < 3; i++) {
            text.append(test);
        }
        text.append("1");
        for (int i = 0; i < 3; i++) {
            text.append("),5,0)");
        }
        leaves(text.toString(), 5);
        leaves(deep + "2)", 9);
        StringBuilder ifs = new StringBuilder("0+1*");
        ifs.append("if(1=2 or 1=1 and 0<0+1*".repeat(7)).append("1").append(",8,0)".repeat(7));
        leaves(ifs.toString(), 8);
        // the fund as it is then: 60 coins, 9 for 2 leave 42
        FedStatues x = of("statue s at 0;statue t at 0;dish e costs 2 warm 1;deed s e 9;deed t e 9;fund 60 grows 0;leaves fund/7;");
        due("fund/7 of 60", x.plate(0, 0), 8);
        due("fund/7 of 44", x.plate(1, 0), 6);
        x.days(1);
        due("day 1, 32 coins", x.plate(0, 0), 4);
        due("day 1, 24 coins", x.plate(1, 0), 3);
    }

    private static void p13Meal() {
        FedStatues x = of(SMALL);
        due("bob hungry", x.meal(0, 0), 0);
        due("bob eats", x.meal(0, 1), 4);
        due("bob first", x.meal(0, 2), 1);
        due("amy hungry", x.meal(1, 0), 1);
        due("amy eats", x.meal(1, 1), 2);
        due("amy first", x.meal(1, 2), 0);
        due("meal(2,0)", x.meal(2, 0), NONE);
        due("meal(-1,0)", x.meal(-1, 0), NONE);
        due("meal(0,3)", x.meal(0, 3), NONE);
        due("meal(0,-1)", x.meal(0, -1), NONE);
        // 10 likes less 10 steps is not above 0
        FedStatues y = of("statue s at 10;dish d costs 0 warm 1;deed s d 9;eater e hunger 3 at 0;eater f hunger 3 at 1;");
        due("too far", y.meal(0, 1), 0);
        due("too far, first", y.meal(0, 2), NONE);
        due("too far, hunger", y.meal(0, 0), 3);
        due("near enough", y.meal(1, 1), 3);
        // by draws, from where he is then
        FedStatues z = of("statue a at 0;statue b at 9;dish d costs 0 warm 1;deed a d 2;deed b d 2;eater e hunger 9 at 5;draws 6-off;");
        due("nearest first", z.meal(0, 2), 1);
        due("then nothing draws", z.meal(0, 1), 2);
        FedStatues v = of("statue a at 0;dish d costs 0 warm 1;dish f costs 0 warm 1;deed a d 3;deed a f 5;eater e hunger 9 at 5;draws left*2-hunger+3;");
        // 9: 6-9+3=0, 10-9+3=4; 8: 0..1, 8-5=3; 7: 2, 6-4=2: of like ones the first; 6: 1 , 3; 5: 2 , 2; 4: 3..
        due("hunger and left: first", v.meal(0, 2), 1);
        due("hunger and left: eaten", v.meal(0, 1), 8);
        FedStatues w = of("statue a at 0;dish d costs 5 warm 1;deed a d 3;eater e hunger 9 at 5;fund 17 grows 0;draws fund-1+day;");
        due("fund once it is cooked", w.meal(0, 1), 3);
        w.give(0 + 13);
        w.days(2);
        due("0 coins", w.has(5), 0);
        due("nothing is put", w.meal(0, 1), 0);
        due("draws by the day", of("statue a at 0;dish d costs 0 warm 1;deed a d 3;eater e hunger 9 at 0;draws day;").days(3), 6);
    }

    private static void p14Later() {
        FedStatues x = of(SMALL);
        due("now", x.later(0, 0), 20);
        for (int w = 1; w < 4; w++) {
            due("later(0," + w + ")", x.later(0, w), 0);
        }
        // 10 grow to 11; then 6, 3, 1 are paid again: 1 and nothing grows; then only 1 for a fig is there
        due("one day", x.later(1, 0), 11);
        due("hunger", x.later(1, 1), 1);
        due("three days", x.later(3, 0), 0);
        due("three days, broken", x.later(3, 3), 2);
        due("three days, hunger", x.later(3, 1), 6);
        due("two days", x.later(2, 0), 1);
        due("two days, broken", x.later(2, 3), 0);
        due("sixty days, hunger", x.later(60, 1), 7);
        due("sixty days, broken", x.later(60, 3), 3);
        due("61", x.later(61, 0), NONE);
        due("-1", x.later(-1, 0), NONE);
        due("what 4", x.later(1, 4), NONE);
        due("what -1", x.later(1, -1), NONE);
        due("nothing came", x.has(4), 0);
        FedStatues y = of("statue s at 50;dish d costs 0 warm 1;deed s d 7;eater e hunger 5 at 0;fund 9999 grows 100;");
        due("left", y.later(5, 2), 7);
        due("grown", y.later(1, 0), 19998);
        due("most", y.later(60, 0), 999999);
        due("without a siege, by the day", of("statue s at 0;dish d costs 1 warm 1;deed s d 9;siege 100;fund 90 grows 0;"
            + "leaves if(siege=0,day*2+1,9);").later(4, 0), 90 - 1 - 3 - 5 - 7);
        FedStatues z = atDay(9998, 0);
        due("one more", z.later(1, 0), 0);
        due("two more", z.later(2, 0), NONE);
    }

    private static FedStatues atDay(int day, int coins) {
        FedStatues x = new FedStatues();
        onImage(x, true, image(day, coins));
        return x;
    }

    private static byte[] image(int day, int coins, int... portions) {
        byte[] made = new byte[6 + portions.length];
        made[0] = (byte) (day >> 8);
        made[1] = (byte) day;
        made[2] = (byte) (coins >> 16);
        made[3] = (byte) (coins >> 8);
        made[4] = (byte) coins;
        for (int i = 0; i < portions.length; i++) {
            made[5 + i] = (byte) portions[i];
        }
        int c = 131;
        for (int i = 0; i < made.length - 1; i++) {
            c = (5 * c + (made[i] & 255)) % 251;
        }
        made[made.length - 1] = (byte) c;
        return made;
    }

    private static void onImage(FedStatues x, boolean want, byte[] image) {
        tape(x, image);
        due("on of " + java.util.Arrays.toString(image), x.on(), want);
    }

    private static void p15Broken() {
        FedStatues x = of(SMALL);
        due("in", x.broken(0), 3);
        due("which", x.broken(1), 0);
        due("broken(2)", x.broken(2), NONE);
        due("broken(-1)", x.broken(-1), NONE);
        x.days(2);
        due("the next one", x.broken(0), 1);
        FedStatues y = of("statue s at 0;dish d costs 1 warm 1;deed s d 1;fund 59 grows 0;");
        due("day 60", y.broken(0), 60);
        y.give(1);
        due("day 61 is too far", y.broken(0), NONE);
        due("day 61 is too far, which", y.broken(1), NONE);
        tape(y, image(9950, 48, 1));
        due("on", y.on(), true);
        due("day 9999 is the last", y.broken(0), 49);
        y.give(1);
        due("beyond day 9999", y.broken(0), NONE);
    }

    private static void p16Round() {
        FedStatues x = of(SMALL);
        due("minutes", x.round(NONE), 8);
        due("first", x.round(0), 0);
        due("second", x.round(1), 1);
        due("third", x.round(2), NONE);
        due("-2", x.round(-2), NONE);
        FedStatues slow = of(SMALL + "pace 2;");
        due("16 minutes are too many", slow.round(NONE), NONE);
        due("no first", slow.round(0), NONE);
        // warm until just then; c must be first, for all it is farther; bare has no deed
        FedStatues y = of("statue a at 3;statue bare at 50;statue b at 7;statue c at 9;dish hot costs 1 warm 18;dish cool costs 1 warm 999;"
            + "deed a cool 1;deed b cool 1;deed c hot 1;pace 2;");
        due("straight", y.round(NONE), 18);
        due("a", y.round(0), 0);
        due("b", y.round(1), 2);
        due("c", y.round(2), 3);
        FedStatues z = of("statue a at 3;statue b at 9;statue c at 1;dish hot costs 1 warm 9;dish cool costs 1 warm 17;dish cold costs 1 warm 16;"
            + "deed a cool 1;deed b hot 1;deed c cool 1;");
        due("out and up", z.round(NONE), 9);
        due("first c", z.round(0), 2);
        due("then a", z.round(1), 0);
        // two at one place: the first number first; and of like ends the first order
        FedStatues w = of("statue z at 4;statue y at 4;statue x at 0;dish d costs 1 warm 100;deed y d 1;deed z d 1;deed x d 1;");
        due("like ones: minutes", w.round(NONE), 4);
        due("like ones: 0", w.round(0), 2);
        due("like ones: 1", w.round(1), 0);
        due("like ones: 2", w.round(2), 1);
        w.change(0, 0);
        due("a deed of nothing is a deed", w.round(2), 1);
        FedStatues bare = of("statue bare at 1;statue less at 2;statue a at 2;statue b at 2;dish d costs 1 warm 2;deed b d 1;deed a d 1;");
        due("bare ones are passed", bare.round(0), 2);
        due("bare ones are passed, then", bare.round(1), 3);
        due("bare ones are passed, end", bare.round(2), NONE);
        due("the first deed counts", of("statue a at 9;statue b at 1;dish d costs 1 warm 9;deed a d 1;deed b d 1;").round(NONE), 9);
        due("the first deed cools", of("statue a at 9;statue b at 1;dish d costs 1 warm 8;deed a d 1;deed b d 1;").round(NONE), NONE);
        FedStatues v = of("statue far at 10;statue near at 0;dish d costs 1 warm 10;deed far d 1;deed near d 1;");
        due("0 is where he begins", v.round(0), 1);
        due("0 minutes without", new FedStatues().round(NONE), 0);
    }

    private static void p17Carriers() {
        due("one", of(SMALL).carriers(), 1);
        due("all are not enough", of(SMALL + "pace 2;").carriers(), NONE);
        due("none are needed", of("statue s at 9;").carriers(), 0);
        due("one deed", of("statue s at 9;dish d costs 1 warm 9;deed s d 1;").carriers(), 1);
        FedStatues x = of("statue a at 9;statue b at 3;dish hot costs 1 warm 9;dish cool costs 1 warm 3;deed a hot 1;deed b cool 1;");
        due("on the way", x.carriers(), 1);
        due("late", of("statue a at 9;dish d costs 1 warm 8;deed a d 1;").carriers(), NONE);
    }

    private static void p18Keep() {
        FedStatues x = of(SMALL);
        // 6 for 2, 3 for 3, 1 for 1
        int[][] want = {{0, 0, 0, 0}, {1, 4, 1, 1}, {2, 4, 1, 1}, {3, 2, 3, 3}, {4, 6, 4, 4}, {8, 6, 4, 4}, {9, 3, 5, 9}, {10, 7, 6, 10}, {9999, 7, 6, 10}};
        for (int[] w : want) {
            for (int k = 0; k < 3; k++) {
                due("keep(" + w[0] + "," + k + ")", x.keep(w[0], k), w[k + 1]);
            }
        }
        due("keep(-1,0)", x.keep(-1, 0), NONE);
        due("keep(10000,0)", x.keep(10000, 0), NONE);
        due("keep(5,3)", x.keep(5, 3), NONE);
        due("keep(5,-1)", x.keep(5, -1), NONE);
        x.change(1, 0);
        due("as they tell now", x.keep(10, 0), 5);
        due("as they tell now, coins", x.keep(10, 2), 7);
        // like portions: the least bits, though they are dearer
        FedStatues y = of("statue a at 0;statue b at 0;dish d costs 5 warm 1;dish e costs 1 warm 1;deed a d 2;deed a e 2;deed b e 2;deed b d 4;");
        due("least bits", y.keep(12, 0), 3);
        due("least bits, coins", y.keep(12, 2), 12);
        due("fewer coins", y.keep(11, 0), 6);
        due("four by two", y.keep(20, 0), 7);
        due("free ones are kept", of("statue a at 0;dish d costs 0 warm 1;deed a d 2;").keep(0, 1), 2);
    }

    private static void p19Feeds() {
        FedStatues x = of(SMALL);
        due("fed", x.feeds(0, 0), 0);
        due("fed, deed", x.feeds(0, 1), NONE);
        // one soup more feeds amy
        due("more", x.feeds(1, 0), 1);
        due("deed", x.feeds(1, 1), 0);
        due("feeds(2,0)", x.feeds(2, 0), NONE);
        due("feeds(-1,0)", x.feeds(-1, 0), NONE);
        due("feeds(0,2)", x.feeds(0, 2), NONE);
        due("feeds(0,-1)", x.feeds(0, -1), NONE);
        due("feeds(1,2)", x.feeds(1, 2), NONE);
        due("feeds(1,-1)", x.feeds(1, -1), NONE);
        due("nothing changed", x.deed(0, 2), 2);
        due("nothing changed today", x.plate(0, 0), 2);
        x.change(0, 6);
        x.change(1, 9);
        x.change(2, 1);
        // 20 coins: 18 for soup, the 9 figs are broken, 1 fig: bob 12-3 fig, then soup; amy is fed of soup
        due("amy is fed", x.meal(1, 0), 0);
        FedStatues y = of("statue s at 0;dish d costs 1 warm 1;deed s d 7;eater e hunger 9 at 0;fund 8 grows 0;");
        due("coins are not enough", y.feeds(0, 0), NONE);
        due("coins are not enough, deed", y.feeds(0, 1), NONE);
        y.give(1);
        due("just enough", y.feeds(0, 0), 2);
        FedStatues z = of("statue s at 0;dish d costs 0 warm 1;dish f costs 0 warm 1;deed s d 9;deed s f 1;eater e hunger 19 at 0;");
        due("9 at most together", z.feeds(0, 0), NONE);
        z.change(0, 0);
        due("0 is not enough", z.feeds(0, 0), NONE);
        FedStatues nine = of("statue s at 0;dish d costs 0 warm 1;deed s d 2;eater e hunger 9 at 0;leaves if(siege=0,told,0);");
        nine.change(0, 0);
        due("nine more", nine.feeds(0, 0), 9);
        FedStatues w = of("statue s at 0;dish d costs 0 warm 1;dish f costs 0 warm 1;deed s d 2;deed s f 1;eater e hunger 6 at 0;");
        due("like deeds", w.feeds(0, 1), 0);
        due("three more", w.feeds(0, 0), 3);
        w.change(0, 7);
        w.change(1, 9);
        due("fed now", w.feeds(0, 0), 0);
    }

    private static void p20Seen() {
        FedStatues x = of(SMALL);
        due("empty", x.seen(), NONE);
        tape(x, bytes(0, 0, 1));
        due("odd", x.seen(), NONE);
        due("tape goes", x.end(1), false);
        tape(x, bytes(3, 0));
        due("no deed", x.seen(), NONE);
        tape(x, bytes(0, 10));
        due("ten", x.seen(), NONE);
        due("status(5)", x.status(5), 4);
        tape(x, bytes(0, 9));
        due("one", x.seen(), 1);
        due("none came so", x.came(0), 0);
        tape(x, bytes(0, 2, 255, 0));
        due("no deed 255", x.seen(), NONE);
        due("stays", x.came(0), 0);
        byte[] rows = new byte[32];
        due("sixteen", seenBy(x, rows), 16);
        due("seventeen", seenBy(x, new byte[34]), NONE);
        due("status(5) again", x.status(5), 6);
        due("without deeds", seenBy(new FedStatues(), bytes(0, 0)), NONE);
    }

    private static int seenBy(FedStatues x, byte[] rows) {
        tape(x, rows);
        return x.seen();
    }

    private static void p21Came() {
        FedStatues x = of(SMALL);
        due("all sets", x.came(0), 4);
        due("in all", x.came(1), 0);
        due("in some", x.came(2), 3);
        due("came(3)", x.came(3), NONE);
        due("came(-1)", x.came(-1), NONE);
        // nobody: 2 3 1; bob: 2 0 0; amy, from 0: soup, soup, fig at king; both: 0 0 0
        seenBy(x, bytes(1, 0));
        due("bob ate figs", x.came(0), 2);
        due("bob in all", x.came(1), 1);
        due("amy in some", x.came(2), 3);
        seenBy(x, bytes(0, 0, 2, 0, 1, 3));
        due("amy alone", x.came(0), 1);
        due("amy in all", x.came(1), 2);
        due("amy only", x.came(2), 2);
        seenBy(x, bytes(0, 2, 2, 1));
        due("nobody", x.came(0), 1);
        due("nobody in all", x.came(1), 0);
        due("nobody in some", x.came(2), 0);
        due("without a siege", of("statue s at 0;dish d costs 0 warm 1;deed s d 2;leaves if(siege=0,told,0);").plate(0, 1), 2);
        FedStatues y = of("statue s at 0;dish d costs 0 warm 1;deed s d 2;leaves if(siege=0,told,0);");
        seenBy(y, bytes(0, 2));
        due("came without a siege", y.came(0), 1);
        seenBy(x, bytes(0, 2, 0, 0));
        due("against each other", x.came(0), 0);
        due("without, all", x.came(1), 0);
        due("without, some", x.came(2), 0);
        seenBy(x, bytes(1, 0));
        x.days(1);
        due("seen stays", x.came(0), 2);
        x.days(1);
        due("without figs", x.came(0), 4);
        x.undo();
        due("with figs again", x.came(0), 2);
        x.undo();
        due("seen stays with undo", x.came(0), 2);
        onImage(x, true, image(0, 20, 2, 3, 1));
        due("seen stays with an image", x.came(0), 2);
        due("today is as it was", x.meal(1, 1), 2);
    }

    private static void p22Rest() {
        FedStatues x = of(SMALL);
        // bob: king 2*10+12=32, nymph 36; amy: king 30, nymph 30
        // round 1: bob 16 or 36: nymph; amy 30 or 15: king; round 2: bob 36; amy 30
        due("round", x.rest(NONE), 2);
        due("bob", x.rest(0), 1);
        due("amy", x.rest(1), 0);
        due("rest(2)", x.rest(2), NONE);
        due("rest(-2)", x.rest(-2), NONE);
        due("without statues", of("eater e hunger 1 at 0;").rest(NONE), NONE);
        due("without statues, eater", of("eater e hunger 1 at 0;").rest(0), NONE);
        due("without eaters", of("statue s at 0;").rest(NONE), 1);
        due("nothing to have", of("statue s at 0;statue t at 0;eater e hunger 1 at 0;").rest(NONE), 1);
        due("nothing to have: the first", of("statue s at 0;statue t at 0;eater e hunger 1 at 0;").rest(0), 0);
        // his own, if it is among the best (15 by one is 15 by one), else the first of the best
        FedStatues y = of("statue a at 0;statue b at 0;statue c at 0;dish d costs 0 warm 1;deed c d 3;deed b d 3;deed a d 1;"
            + "eater e hunger 1 at 0;");
        due("first of the best", y.rest(0), 1);
        // floor: 10 by 2 is 5, no more than 5
        FedStatues z = of("statue a at 0;statue b at 0;dish d costs 0 warm 1;dish f costs 0 warm 1;deed a d 1;deed b f 1;"
            + "eater e hunger 1 at 0;eater g hunger 1 at 0;likes e d 11;likes e f 5;likes g d 11;likes g f 5;");
        due("5 is 5", z.rest(NONE), 1);
        String many = "statue a at 0;statue b at 0;statue c at 0;statue d at 0;statue e at 0;dish x costs 0 warm 1;dish y costs 0 warm 1;"
            + "deed a y 4;deed b x 2;deed d x 2;deed d y 6;";
        int[][] likes = {{16, 87}, {18, 50}, {10, 57}, {10, 61}, {71, 93}, {41, 10}, {26, 44}, {10, 9}};
        StringBuilder text = new StringBuilder(many);
        for (int i = 0; i < 8; i++) {
            String name = "q" + (char) ('a' + i);
            text.append("eater ").append(name).append(" hunger 1 at 0;likes ").append(name).append(" x ").append(likes[i][0])
                .append(";likes ").append(name).append(" y ").append(likes[i][1]).append(';');
        }
        due("six rounds", of(text.toString()).rest(NONE), 6);
        // 24 alone or 24 by two; the third has 12 by two or 8 by three
        FedStatues w = of("statue a at 0;statue b at 0;statue c at 0;dish d costs 0 warm 1;deed a d 6;deed b d 5;deed c d 1;"
            + "eater e hunger 1 at 0;eater f hunger 1 at 0;eater g hunger 1 at 0;eater h hunger 1 at 0;");
        // e: 60/4=15, 50, 10: b; f: 60/3=20, 50/2=25: b; g: 60/2=30, 50/3=16: a; h: 30, 16: a
        // e: 25, 60/3=20: b; f: b; g: 30: a; h: a
        due("two rounds", w.rest(NONE), 2);
        int[] rest = {1, 1, 0, 0};
        for (int i = 0; i < 4; i++) {
            due("rest of " + i, w.rest(i), rest[i]);
        }
    }

    private static void p23Days() {
        FedStatues x = of(SMALL);
        due("a day", x.days(1), 6);
        due("fund", x.has(5), 11);
        due("day", x.has(4), 1);
        due("two days", x.days(2), 7);
        due("days(0)", x.days(0), NONE);
        due("days(-1)", x.days(-1), NONE);
        due("days(101)", x.days(101), NONE);
        due("status(2)", x.status(2), 3);
        due("days(100)", x.days(100), 0);
        due("day", x.has(4), 103);
        due("acts", x.has(11), 3);
        due("seed stays", x.has(12), 1);
        FedStatues y = atDay(9990, 7);
        due("beyond", y.days(10), NONE);
        due("up to 9999", y.days(9), 0);
        due("day 9999", y.has(4), 9999);
        due("no more", y.days(1), NONE);
        due("no more by the seed", y.chance(1), NONE);
        due("status(2)", y.status(2), 3);
        due("acts", y.has(11), 1);
    }

    private static void p24Chance() {
        // draws of 100 from seed 1 on
        long s = 1;
        int[] draws = new int[12];
        for (int i = 0; i < draws.length; i++) {
            s = (1103515245L * s + 12345) % 2147483648L;
            draws[i] = (int) (s / 64 % 100);
        }
        FedStatues x = of("siege " + (draws[0] + 1) + ";");
        due("just below", x.chance(1), 1);
        FedStatues y = of("siege " + draws[0] + ";");
        due("not below", y.chance(1), 0);
        due("chance(0)", y.chance(0), NONE);
        due("chance(101)", y.chance(101), NONE);
        due("chance(-5)", y.chance(-5), NONE);
        due("status(2)", y.status(2), 3);
        bequests();
        FedStatues z = of("statue s at 0;dish d costs 1 warm 1;deed s d 5;siege 100;leaves if(siege=1,2,told);eater e hunger 9 at 0;");
        due("today is without a siege", z.plate(0, 0), 5);
        due("all are sieges", z.chance(1), 1);
        due("kept in the siege", z.has(10), 2);
        due("days are without a siege", z.days(1), 5);
        due("one act each", z.has(11), 2);
    }

    private static void bequests() {
        // a seed by which there is a bequest on the first day: behind what has grown
        long seed = 0;
        int gift = 0;
        for (; seed < 100000; seed++) {
            long a = (1103515245L * seed + 12345) % 2147483648L;
            long b = (1103515245L * a + 12345) % 2147483648L;
            long c = (1103515245L * b + 12345) % 2147483648L;
            gift = (int) (c / 64 % 100);
            if (b / 64 % 100 == 9 && gift > 50) {
                break;
            }
        }
        FedStatues x = of("fund 100 grows 50;");
        due("seed", x.seed((int) seed), true);
        due("chance", x.chance(1), 0);
        due("grown, then the bequest", x.has(5), 150 + gift);
        seed = 0;
        while ((1103515245L * ((1103515245L * seed + 12345) % 2147483648L) + 12345) % 2147483648L / 64 % 100 != 10) {
            seed++;
        }
        FedStatues ten = of("fund 100 grows 0;");
        ten.seed((int) seed);
        ten.chance(1);
        due("10 is not below 10", ten.has(5), 100);
        FedStatues cached = of("statue s at 0;dish d costs 1 warm 1;deed s d 5;fund 7 grows 0;");
        due("today", cached.plate(0, 0), 5);
        due("later", cached.later(2, 3), 1);
        cached.seed((int) seed);
        cached.chance(1);
        due("another today", cached.plate(0, 0), 0);
        due("another later", cached.later(1, 3), 1);
        FedStatues y = atDay(5, 999990);
        for (seed = 0; ; seed++) {
            long b = (1103515245L * ((1103515245L * seed + 12345) % 2147483648L) + 12345) % 2147483648L;
            if (b / 64 % 100 < 10 && (1103515245L * b + 12345) % 2147483648L / 64 % 100 > 20) {
                break;
            }
        }
        y.seed((int) seed);
        y.chance(1);
        due("999999 at most", y.has(5), 999999);
    }

    private static void p25Give() {
        FedStatues x = of(SMALL);
        due("give", x.give(1), 21);
        due("give most", x.give(9999), 10020);
        due("give(0)", x.give(0), NONE);
        due("give(10000)", x.give(10000), NONE);
        due("give(-1)", x.give(-1), NONE);
        due("give(max)", x.give(Integer.MAX_VALUE), NONE);
        due("status(3)", x.status(3), 4);
        due("acts", x.has(11), 2);
        FedStatues y = atDay(0, 999990);
        due("too many", y.give(10), NONE);
        due("just enough", y.give(9), 999999);
        due("one more", y.give(1), NONE);
    }

    private static void p26Change() {
        FedStatues x = of(SMALL);
        due("change", x.change(0, 9), 2);
        due("again", x.change(0, 0), 9);
        due("the same is an act", x.change(0, 0), 0);
        due("acts", x.has(11), 3);
        due("10", x.change(0, 10), NONE);
        due("-1", x.change(0, -1), NONE);
        due("deed 3", x.change(3, 1), NONE);
        due("deed -1", x.change(-1, 1), NONE);
        due("status(3)", x.status(3), 4);
        due("0 is left", x.plate(0, 0), 0);
        due("0 is not broken", x.plate(0, 2), 0);
    }

    private static void p27Undo() {
        FedStatues x = of(SMALL);
        due("nothing", x.undo(), false);
        x.days(1);
        int kept = x.has(10);
        int[] deeds = new int[kept];
        for (int k = 0; k < kept; k++) {
            deeds[k] = x.kept(k, 1);
        }
        x.chance(3);
        int seed = x.has(12);
        x.change(0, 7);
        x.give(4);
        for (int i = 0; i < 2; i++) {
            due("undo", x.undo(), true);
        }
        due("told again", x.deed(0, 2), 2);
        due("undo chance", x.undo(), true);
        due("seed stays", x.has(12), seed);
        due("day", x.has(4), 1);
        due("fund", x.has(5), 11);
        due("kept", x.has(10), kept);
        for (int k = 0; k < kept; k++) {
            due("kept again " + k, x.kept(k, 1), deeds[k]);
        }
        due("undo days", x.undo(), true);
        due("nothing kept", x.has(10), 0);
        due("fund at first", x.has(5), 20);
        due("nothing more", x.undo(), false);
        due("status(4)", x.status(4), 2);
        for (int i = 0; i < 25; i++) {
            x.give(1);
        }
        due("20 acts", x.has(11), 20);
        for (int i = 0; i < 20; i++) {
            due("undo " + i, x.undo(), true);
        }
        due("the 21st", x.undo(), false);
        due("5 stay", x.has(5), 25);
        due("today again", x.plate(1, 0), 3);
    }

    private static void p28Seed() {
        FedStatues x = new FedStatues();
        due("seed(0)", x.seed(0), true);
        due("has", x.has(12), 0);
        due("seed(max)", x.seed(Integer.MAX_VALUE), true);
        due("has max", x.has(12), Integer.MAX_VALUE);
        due("seed(-1)", x.seed(-1), false);
        due("seed(min)", x.seed(Integer.MIN_VALUE), false);
        due("stays", x.has(12), Integer.MAX_VALUE);
        due("status(5)", x.status(5), 2);
        due("no act", x.has(11), 0);
        x.seed(1);
        x.chance(1);
        long a = (1103515245L + 12345) % 2147483648L;
        long b = (1103515245L * a + 12345) % 2147483648L;
        long c = (1103515245L * b + 12345) % 2147483648L;
        due("two draws, or three", x.has(12), b / 64 % 100 < 10 ? c : b);
    }

    private static void p29Kept() {
        FedStatues x = of(SMALL);
        due("nothing", x.kept(0, 0), NONE);
        x.days(1);
        due("six", x.has(10), 6);
        int[] eaters = {0, 0, 0, 0, 1, 1};
        int[] deeds = {1, 1, 1, 2, 0, 0};
        for (int k = 0; k < 6; k++) {
            due("eater " + k, x.kept(k, 0), eaters[k]);
            due("deed " + k, x.kept(k, 1), deeds[k]);
        }
        due("kept(6,0)", x.kept(6, 0), NONE);
        due("kept(-1,0)", x.kept(-1, 0), NONE);
        due("kept(0,2)", x.kept(0, 2), NONE);
        due("kept(0,-1)", x.kept(0, -1), NONE);
        x.give(5);
        due("give keeps it", x.has(10), 6);
        // 16 coins: 10 are paid; 6 are soup alone, which bob eats
        x.days(2);
        due("the latest day alone", x.has(10), 2);
        x.plate(0, 0);
        x.later(9, 0);
        due("asking keeps it", x.kept(0, 0), 0);
    }

    private static void p30Image() {
        FedStatues x = of(SMALL);
        due("size", x.image(), 9);
        byte[] want = image(0, 20, 2, 3, 1);
        for (int k = 0; k < want.length; k++) {
            due("octet " + k, x.octet(k), want[k] & 255);
        }
        onImage(x, true, image(9999, 999999, 9, 0, 9));
        x.image();
        want = image(9999, 999999, 9, 0, 9);
        for (int k = 0; k < want.length; k++) {
            due("octet " + k + " of the most", x.octet(k), want[k] & 255);
        }
        due("without deeds", new FedStatues().image(), 6);
    }

    private static void p31Octet() {
        FedStatues x = of(SMALL);
        due("ahead of any", x.octet(0), NONE);
        x.image();
        x.give(1);
        due("the latest image", x.octet(4), 20);
        due("octet(9)", x.octet(9), NONE);
        due("octet(-1)", x.octet(-1), NONE);
        due("octet(min)", x.octet(Integer.MIN_VALUE), NONE);
        x.image();
        due("again", x.octet(4), 21);
    }

    private static void p32On() {
        FedStatues x = of(SMALL);
        x.days(1);
        byte[] good = image(258, 65539, 0, 9, 4);
        onImage(x, true, good);
        due("day", x.has(4), 258);
        due("fund", x.has(5), 65539);
        due("deed 0", x.deed(0, 2), 0);
        due("deed 1", x.deed(1, 2), 9);
        due("deed 2", x.deed(2, 2), 4);
        due("at first", x.deed(1, 3), 3);
        due("nothing kept", x.has(10), 0);
        due("no acts", x.has(11), 0);
        due("undo", x.undo(), false);
        due("tape goes", x.feed(0, 0, 0, 0, 0), 20);
        x.give(1);
        for (int k = 0; k < good.length; k++) {
            byte[] bad = good.clone();
            bad[k]++;
            onImage(x, false, bad);
        }
        onImage(x, false, new byte[0]);
        onImage(x, false, image(1, 1, 1, 1));
        onImage(x, false, image(1, 1, 1, 1, 1, 1));
        onImage(x, false, image(10000, 1, 1, 1, 1));
        onImage(x, false, image(65535, 1, 1, 1, 1));
        onImage(x, false, image(1, 1000000, 1, 1, 1));
        onImage(x, false, image(1, 1, 1, 1, 10));
        onImage(x, false, image(1, 1, 10, 1, 1));
        due("status(5)", x.status(5), good.length + 8);
        due("stays", x.has(5), 65540);
        due("acts stay", x.has(11), 1);
        due("tape goes", x.feed(0, 0, 0, 0, 0), 20);
        onImage(x, true, image(9999, 999999, 9, 9, 9));
        due("today at the last day", x.plate(0, 0), 9);
        due("nothing ahead", x.later(1, 0), NONE);
    }

    /** As many of all as can be. */
    private static void fullCity() {
        StringBuilder text = new StringBuilder();
        for (char c = 'a'; c <= 'h'; c++) {
            text.append("statue s").append(c).append(" at 0;dish d").append(c).append(" costs 1 warm 1;eater e").append(c)
                .append(" hunger 20 at 0;");
        }
        for (char c = 'a'; c <= 'h'; c++) {
            text.append("deed s").append(c).append(" d").append(c).append(" 9;deed sa d").append(c == 'a' ? 'b' : c).append(" 9;");
        }
        String city = text.toString().replace("deed sa dh 9;", "deed sa dh 9;fund 9999 grows 0;").replaceFirst("deed sa db 9;", "deed sb da 9;");
        FedStatues x = of(city);
        due("full deeds", x.has(2), 16);
        due("full portions", x.has(9), 144);
        due("full days", x.days(1), 144);
        due("full kept", x.has(10), 144);
        due("full kept, last eater", x.kept(143, 0), 7);
        due("full kept, first of the last", x.kept(140, 0), 7);
        due("full kept, seventh", x.kept(139, 0), 6);
        due("full hunger", x.later(1, 1), 16);
        due("full keep", x.keep(9999, 1), 144);
        due("full keep, bits", x.keep(9999, 0), 65535);
        due("full keep less one", x.keep(143, 0), 32767);
        due("full image", x.image(), 22);
        due("full image, last deed", x.octet(20), 9);
        due("full came", x.came(0), 256);
        due("full came, some", x.came(2), 255);
        due("full round", x.round(7), 7);
        due("full rest", x.rest(7) >= 0, true);
        due("full plate", x.plate(15, 1), 0);
        due("full change", x.change(15, 0), 9);
        due("full feeds", x.feeds(7, 0), NONE);
        due("full letters", x.letter(2, 7, 1), 8);
        due("full likes", x.eater(7, 17), 10);
    }

    private static void p33Status() {
        FedStatues x = new FedStatues();
        due("status(6)", x.status(6), NONE);
        due("status(-1)", x.status(-1), NONE);
        x.end(1);
        city(x, "x");
        city(x, "y");
        x.days(0);
        x.chance(0);
        x.days(101);
        x.give(0);
        x.change(0, 0);
        x.give(-1);
        x.change(0, 1);
        for (int i = 0; i < 5; i++) {
            x.undo();
        }
        x.seed(-1);
        x.seen();
        x.on();
        x.seed(-2);
        x.seen();
        x.on();
        for (int i = 0; i < 6; i++) {
            due("status(" + i + ")", x.status(i), i + 1);
        }
        city(x, SMALL);
        due("status stays", x.status(1), 2);
    }

    public static void main(String[] args) {
        p01NewObject();
        p02Feed();
        p03End();
        p04City();
        p05Fault();
        p06Has();
        p07Letter();
        p08Statue();
        p09Dish();
        p10Deed();
        p11Eater();
        p12Plate();
        p13Meal();
        p14Later();
        p15Broken();
        p16Round();
        p17Carriers();
        p18Keep();
        p19Feeds();
        p20Seen();
        p21Came();
        p22Rest();
        p23Days();
        p24Chance();
        p25Give();
        p26Change();
        p27Undo();
        p28Seed();
        p29Kept();
        p30Image();
        p31Octet();
        p32On();
        p33Status();
        fullCity();
        System.out.println(asked + " answers asked for, " + wrong + " not as due");
        if (wrong != 0) {
            System.exit(1);
        }
    }
}
