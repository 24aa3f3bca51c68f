import java.nio.charset.StandardCharsets;
import java.util.ArrayDeque;
import java.util.ArrayList;
import java.util.Arrays;
import java.util.Deque;
import java.util.HashMap;
import java.util.List;
import java.util.Map;
import java.util.Random;
import java.util.Set;

/** Random runs against a model that tries everything out: all orders, all sets, trees instead of steps. */
public final class ModelTests {
    private static final int RUNS = 1500;
    private static final int CALLS = 300;
    private static final int NONE = -1;

    // ---- the model

    private static final class Fault extends RuntimeException {
        private static final long serialVersionUID = 1L;
        final int kind;
        final int place;

        Fault(int kind, int place) {
            super(null, null, false, false);
            this.kind = kind;
            this.place = place;
        }
    }

    private interface Sum {
        long of(Map<String, Integer> facts);
    }

    private interface Test {
        boolean of(Map<String, Integer> facts);
    }

    private static final Set<String> OWN = Set.of("statue", "at", "dish", "costs", "warm", "deed", "eater", "hunger",
        "likes", "leaves", "draws", "fund", "grows", "pace", "siege", "day", "told", "rank", "off", "left", "if", "or",
        "and", "not", "all", "min", "max");

    private static final class Town {
        final List<String> statues = new ArrayList<>();
        final List<String> dishes = new ArrayList<>();
        final List<String> eaters = new ArrayList<>();
        final List<int[]> statue = new ArrayList<>();
        final List<int[]> dish = new ArrayList<>();
        final List<int[]> deed = new ArrayList<>();
        final List<int[]> eater = new ArrayList<>();
        final Map<List<Integer>, Integer> likes = new HashMap<>();
        Sum leaves = f -> f.get("told");
        Sum draws = f -> f.get("likes") - f.get("off");
        boolean leavesTold;
        boolean drawsTold;
        int fund = 100;
        int grows = 0;
        int pace = 1;
        int siege = 0;
        int statements = 0;

        int likes(int e, int d) {
            return likes.getOrDefault(List.of(e, d), 10);
        }
    }

    private static long bound(long v) {
        return Math.max(-1000000, Math.min(1000000, v));
    }

    /** Reads the text letter by letter, without tokens kept. */
    private static final class Reading {
        final String t;
        int p = 0;
        boolean wordBefore = false;
        final Town town = new Town();
        boolean inLeaves;

        Reading(String text) {
            t = text;
        }

        static boolean letter(char c) {
            return c >= 'a' && c <= 'z';
        }

        static boolean digit(char c) {
            return c >= '0' && c <= '9';
        }

        /** To the next thing; a word or number that is too long, or glued, is a fault wherever it stands. */
        String peek() {
            int q = p;
            while (q < t.length() && (t.charAt(q) == 10 || t.charAt(q) == 32)) {
                q++;
            }
            boolean glued = q == p && wordBefore;
            p = q;
            if (glued) {
                wordBefore = true;
            } else {
                wordBefore = false;
            }
            if (p >= t.length()) {
                return "";
            }
            char c = t.charAt(p);
            if (letter(c) || digit(c)) {
                if (glued) {
                    throw new Fault(1, p);
                }
                int most = letter(c) ? 6 : 4;
                int e = p;
                while (e < t.length() && letter(t.charAt(e)) == letter(c) && digit(t.charAt(e)) == digit(c)
                    && (letter(t.charAt(e)) || digit(t.charAt(e)))) {
                    if (e - p == most) {
                        throw new Fault(1, e);
                    }
                    e++;
                }
                return t.substring(p, e);
            }
            return t.substring(p, p + 1);
        }

        void pass(String token) {
            p += token.length();
            wordBefore = !token.isEmpty() && (letter(token.charAt(0)) || digit(token.charAt(0)));
        }

        boolean next(String want) {
            return peek().equals(want);
        }

        void must(String want) {
            if (!next(want)) {
                throw new Fault(1, p);
            }
            pass(want);
        }

        int number(int least, int most) {
            String n = peek();
            if (n.isEmpty() || !digit(n.charAt(0))) {
                throw new Fault(1, p);
            }
            int v = Integer.parseInt(n);
            if (v < least || v > most) {
                throw new Fault(4, p);
            }
            pass(n);
            return v;
        }

        String name() {
            String n = peek();
            if (n.isEmpty() || !letter(n.charAt(0)) || OWN.contains(n)) {
                throw new Fault(1, p);
            }
            return n;
        }

        void given(List<String> names) {
            String n = name();
            if (town.statues.contains(n) || town.dishes.contains(n) || town.eaters.contains(n)) {
                throw new Fault(2, p);
            }
            names.add(n);
            pass(n);
        }

        int asked(List<String> names) {
            String n = name();
            int i = names.indexOf(n);
            if (i < 0) {
                throw new Fault(3, p);
            }
            return i;
        }

        Town read() {
            while (!next("")) {
                int begin = p;
                if (town.statements == 80) {
                    throw new Fault(6, begin);
                }
                statement(peek(), begin);
                must(";");
                town.statements++;
            }
            return town;
        }

        void room(boolean is, int begin) {
            if (!is) {
                throw new Fault(6, begin);
            }
        }

        void statement(String word, int begin) {
            switch (word) {
                case "statue" -> {
                    room(town.statue.size() < 8, begin);
                    pass(word);
                    given(town.statues);
                    must("at");
                    town.statue.add(new int[] {number(0, 99)});
                }
                case "dish" -> {
                    room(town.dish.size() < 8, begin);
                    pass(word);
                    given(town.dishes);
                    must("costs");
                    int cost = number(0, 99);
                    must("warm");
                    town.dish.add(new int[] {cost, number(1, 999)});
                }
                case "deed" -> {
                    room(town.deed.size() < 16, begin);
                    pass(word);
                    int s = asked(town.statues);
                    pass(town.statues.get(s));
                    int d = asked(town.dishes);
                    for (int[] other : town.deed) {
                        if (other[0] == s && other[1] == d) {
                            throw new Fault(3, p);
                        }
                    }
                    pass(town.dishes.get(d));
                    town.deed.add(new int[] {s, d, number(1, 9)});
                }
                case "eater" -> {
                    room(town.eater.size() < 8, begin);
                    pass(word);
                    given(town.eaters);
                    must("hunger");
                    int hunger = number(1, 20);
                    must("at");
                    town.eater.add(new int[] {hunger, number(0, 99)});
                }
                case "likes" -> {
                    pass(word);
                    int e = asked(town.eaters);
                    pass(town.eaters.get(e));
                    int d = asked(town.dishes);
                    pass(town.dishes.get(d));
                    town.likes.put(List.of(e, d), number(0, 99));
                }
                case "leaves" -> {
                    room(!town.leavesTold, begin);
                    pass(word);
                    town.leavesTold = true;
                    inLeaves = true;
                    town.leaves = sum(0);
                }
                case "draws" -> {
                    room(!town.drawsTold, begin);
                    pass(word);
                    town.drawsTold = true;
                    inLeaves = false;
                    town.draws = sum(0);
                }
                case "fund" -> {
                    pass(word);
                    town.fund = number(0, 9999);
                    must("grows");
                    town.grows = number(0, 100);
                }
                case "pace" -> {
                    pass(word);
                    town.pace = number(1, 20);
                }
                case "siege" -> {
                    pass(word);
                    town.siege = number(0, 100);
                }
                default -> throw new Fault(1, begin);
            }
        }

        Sum sum(int open) {
            Sum left = product(open);
            while (next("+") || next("-")) {
                boolean plus = next("+");
                pass("+");
                Sum a = left;
                Sum b = product(open);
                left = plus ? f -> bound(a.of(f) + b.of(f)) : f -> bound(a.of(f) - b.of(f));
            }
            return left;
        }

        Sum product(int open) {
            Sum left = part(open);
            while (next("*") || next("/") || next("%")) {
                String how = peek();
                pass(how);
                Sum a = left;
                Sum b = part(open);
                left = f -> {
                    long x = a.of(f);
                    long y = b.of(f);
                    if (how.equals("*")) {
                        return bound(x * y);
                    }
                    long down = y == 0 ? 0 : (long) Math.floor((double) x / y);
                    return y == 0 ? 0 : how.equals("/") ? bound(down) : bound(x - y * down);
                };
            }
            return left;
        }

        int opened(String sign, int open) {
            if (!next(sign)) {
                throw new Fault(1, p);
            }
            if (open == 7) {
                throw new Fault(5, p);
            }
            pass(sign);
            return open + 1;
        }

        Sum part(int open) {
            String w = peek();
            if (!w.isEmpty() && digit(w.charAt(0))) {
                long v = Long.parseLong(w);
                pass(w);
                return f -> v;
            }
            Set<String> facts = inLeaves ? Set.of("day", "fund", "told", "costs", "rank", "siege")
                : Set.of("day", "fund", "likes", "off", "hunger", "left");
            if (facts.contains(w)) {
                pass(w);
                return f -> f.get(w);
            }
            if (w.equals("(")) {
                Sum inner = sum(opened("(", open));
                must(")");
                return inner;
            }
            if (w.equals("min") || w.equals("max")) {
                pass(w);
                int deeper = opened("(", open);
                Sum a = sum(deeper);
                must(",");
                Sum b = sum(deeper);
                must(")");
                return w.equals("min") ? f -> Math.min(a.of(f), b.of(f)) : f -> Math.max(a.of(f), b.of(f));
            }
            if (w.equals("if")) {
                pass(w);
                int deeper = opened("(", open);
                Test c = test(deeper);
                must(",");
                Sum a = sum(deeper);
                must(",");
                Sum b = sum(deeper);
                must(")");
                return f -> c.of(f) ? a.of(f) : b.of(f);
            }
            throw new Fault(1, p);
        }

        Test test(int open) {
            Test left = both(open);
            while (next("or")) {
                pass("or");
                Test a = left;
                Test b = both(open);
                left = f -> a.of(f) || b.of(f);
            }
            return left;
        }

        Test both(int open) {
            Test left = fact(open);
            while (next("and")) {
                pass("and");
                Test a = left;
                Test b = fact(open);
                left = f -> a.of(f) && b.of(f);
            }
            return left;
        }

        Test fact(int open) {
            if (next("not")) {
                int deeper = opened("not", open);
                Test a = fact(deeper);
                return f -> !a.of(f);
            }
            if (next("[")) {
                Test a = test(opened("[", open));
                must("]");
                return a;
            }
            if (next("all")) {
                pass("all");
                return f -> true;
            }
            Sum a = sum(open);
            String sign = peek();
            if (!sign.equals("<") && !sign.equals(">") && !sign.equals("=")) {
                throw new Fault(1, p);
            }
            pass(sign);
            Sum b = sum(open);
            return f -> sign.equals("<") ? a.of(f) < b.of(f) : sign.equals(">") ? a.of(f) > b.of(f) : a.of(f) == b.of(f);
        }
    }

    private static final class Day {
        int[] put;
        int[] left;
        boolean[] broken;
        int[] hunger;
        List<int[]> eaten = new ArrayList<>();
        int fund;
    }

    private static final class Then {
        int day;
        int fund;
        int[] told;
        List<int[]> kept = List.of();

        Then copy() {
            Then c = new Then();
            c.day = day;
            c.fund = fund;
            c.told = told.clone();
            c.kept = kept;
            return c;
        }
    }

    private static final class Model {
        Town town = new Town();
        Then now = new Then();
        Deque<Then> past = new ArrayDeque<>();
        List<int[]> seen = List.of();
        long seed = 1;
        int fault = 0;
        int place = NONE;
        byte[] tape = new byte[0];
        int[] refused = new int[6];
        int[] picture = new int[0];

        Model() {
            begin();
        }

        void begin() {
            now = new Then();
            now.fund = town.fund;
            now.told = town.deed.stream().mapToInt(d -> d[2]).toArray();
            past.clear();
            seen = List.of();
        }

        int no(int what) {
            refused[what]++;
            return NONE;
        }

        int feed(int[] n) {
            if (tape.length + 20 > 1600) {
                return no(0);
            }
            int at = tape.length;
            tape = Arrays.copyOf(tape, at + 20);
            for (int i = 0; i < 20; i++) {
                tape[at + i] = (byte) (n[i / 4] >>> 8 * (3 - i % 4));
            }
            return tape.length;
        }

        int end(int n) {
            if (n < 0 || n > tape.length) {
                no(0);
                return 0;
            }
            tape = Arrays.copyOf(tape, n);
            return 1;
        }

        int city() {
            String text = new String(tape, StandardCharsets.ISO_8859_1);
            tape = new byte[0];
            try {
                town = new Reading(text).read();
            } catch (Fault f) {
                fault = f.kind;
                place = f.place;
                return no(1);
            }
            fault = 0;
            place = NONE;
            begin();
            return town.statements;
        }

        Day day(Then then, int siege, int who) {
            Day d = new Day();
            int deeds = town.deed.size();
            d.put = new int[deeds];
            d.broken = new boolean[deeds];
            d.fund = then.fund;
            for (int i = 0; i < deeds; i++) {
                int cost = town.dish.get(town.deed.get(i)[1])[0];
                long sum = town.leaves.of(Map.of("day", then.day, "fund", d.fund, "told", then.told[i], "costs", cost,
                    "rank", i, "siege", siege));
                int due = (int) Math.max(0, Math.min(then.told[i], sum));
                if (due * cost > d.fund) {
                    d.broken[i] = true;
                } else {
                    d.put[i] = due;
                    d.fund -= due * cost;
                }
            }
            d.left = d.put.clone();
            d.hunger = new int[town.eater.size()];
            for (int e = 0; e < town.eater.size(); e++) {
                d.hunger[e] = town.eater.get(e)[0];
                if ((who >> e & 1) != 0) {
                    eat(then, d, e);
                }
            }
            return d;
        }

        void eat(Then then, Day d, int e) {
            int where = town.eater.get(e)[1];
            while (d.hunger[e] > 0) {
                int best = NONE;
                long most = 0;
                for (int i = town.deed.size() - 1; i >= 0; i--) {
                    int[] deed = town.deed.get(i);
                    if (d.left[i] > 0) {
                        long sum = town.draws.of(Map.of("day", then.day, "fund", d.fund, "likes", town.likes(e, deed[1]),
                            "off", Math.abs(where - town.statue.get(deed[0])[0]), "hunger", d.hunger[e], "left", d.left[i]));
                        if (sum > 0 && sum >= most) {
                            most = sum;
                            best = i;
                        }
                    }
                }
                if (best == NONE) {
                    return;
                }
                d.left[best]--;
                d.hunger[e]--;
                d.eaten.add(new int[] {e, best});
                where = town.statue.get(town.deed.get(best)[0])[0];
            }
        }

        int all() {
            return (1 << town.eater.size()) - 1;
        }

        Day pass(Then then, int siege) {
            Day d = day(then, siege, all());
            then.fund = (int) Math.min(999999, d.fund + (long) d.fund * town.grows / 100);
            then.day++;
            then.kept = d.eaten;
            return d;
        }

        int plate(int deed, int what) {
            if (deed < 0 || deed >= town.deed.size() || what < 0 || what > 2) {
                return NONE;
            }
            Day d = day(now, 0, all());
            return what == 0 ? d.put[deed] : what == 1 ? d.left[deed] : d.broken[deed] ? 1 : 0;
        }

        int meal(int eater, int what) {
            if (eater < 0 || eater >= town.eater.size() || what < 0 || what > 2) {
                return NONE;
            }
            Day d = day(now, 0, all());
            if (what == 0) {
                return d.hunger[eater];
            }
            List<int[]> his = d.eaten.stream().filter(m -> m[0] == eater).toList();
            return what == 1 ? his.size() : his.isEmpty() ? NONE : his.get(0)[1];
        }

        int later(int n, int what) {
            if (n < 0 || n > 60 || now.day + n > 9999 || what < 0 || what > 3) {
                return NONE;
            }
            Then then = now.copy();
            Day d = null;
            for (int i = 0; i < n; i++) {
                d = pass(then, 0);
            }
            if (what == 0) {
                return then.fund;
            }
            if (d == null) {
                return 0;
            }
            int broken = 0;
            for (boolean b : d.broken) {
                broken += b ? 1 : 0;
            }
            return what == 1 ? Arrays.stream(d.hunger).sum() : what == 2 ? Arrays.stream(d.left).sum() : broken;
        }

        int broken(int what) {
            Then then = now.copy();
            for (int n = 1; n <= 60 && then.day < 9999 && (what == 0 || what == 1); n++) {
                Day d = pass(then, 0);
                for (int i = 0; i < d.broken.length; i++) {
                    if (d.broken[i]) {
                        return what == 0 ? n : i;
                    }
                }
            }
            return NONE;
        }

        List<Integer> stops() {
            List<Integer> stops = new ArrayList<>();
            for (int s = 0; s < town.statue.size(); s++) {
                int which = s;
                if (town.deed.stream().anyMatch(d -> d[0] == which)) {
                    stops.add(s);
                }
            }
            return stops;
        }

        int bestEnd;
        List<Integer> bestOrder;

        void orders(List<Integer> rest, List<Integer> order, int where, int time) {
            if (rest.isEmpty() && (bestOrder == null || time < bestEnd)) {
                bestEnd = time;
                bestOrder = List.copyOf(order);
            }
            for (Integer s : rest) {
                int to = town.statue.get(s)[0];
                int then = time + Math.abs(to - where) * town.pace;
                boolean warm = town.deed.stream().filter(d -> d[0] == s).allMatch(d -> town.dish.get(d[1])[1] >= then);
                if (warm) {
                    List<Integer> less = new ArrayList<>(rest);
                    less.remove(s);
                    order.add(s);
                    orders(less, order, to, then);
                    order.remove(order.size() - 1);
                }
            }
        }

        boolean canGo(List<Integer> stops) {
            bestOrder = null;
            orders(stops, new ArrayList<>(), 0, 0);
            return bestOrder != null;
        }

        int round(int k) {
            if (!canGo(stops())) {
                return NONE;
            }
            return k == NONE ? bestEnd : k < 0 || k >= bestOrder.size() ? NONE : bestOrder.get(k);
        }

        int carriers() {
            List<Integer> stops = stops();
            int[] need = new int[1 << stops.size()];
            for (int set = 1; set < need.length; set++) {
                need[set] = 99;
                for (int part = 1; part <= set; part++) {
                    if ((part & set) == part && need[set ^ part] + 1 < need[set]) {
                        List<Integer> some = new ArrayList<>();
                        for (int i = 0; i < stops.size(); i++) {
                            if ((part >> i & 1) != 0) {
                                some.add(stops.get(i));
                            }
                        }
                        if (canGo(some)) {
                            need[set] = need[set ^ part] + 1;
                        }
                    }
                }
            }
            return need[need.length - 1] >= 99 ? NONE : need[need.length - 1];
        }

        int keep(int coins, int what) {
            if (coins < 0 || coins > 9999 || what < 0 || what > 2) {
                return NONE;
            }
            int[] best = {0, 0, 0};
            for (int set = 0; set < 1 << town.deed.size(); set++) {
                int portions = 0;
                int cost = 0;
                for (int i = 0; i < town.deed.size(); i++) {
                    if ((set >> i & 1) != 0) {
                        portions += now.told[i];
                        cost += now.told[i] * town.dish.get(town.deed.get(i)[1])[0];
                    }
                }
                if (cost <= coins && portions > best[1]) {
                    best = new int[] {set, portions, cost};
                }
            }
            return best[what];
        }

        int feeds(int eater, int what) {
            if (eater < 0 || eater >= town.eater.size() || what < 0 || what > 1) {
                return NONE;
            }
            for (int more = 0; more <= 9; more++) {
                for (int i = 0; i < Math.max(1, town.deed.size()); i++) {
                    Then then = now.copy();
                    if (more > 0 && (i >= then.told.length || then.told[i] + more > 9)) {
                        continue;
                    }
                    if (more > 0) {
                        then.told[i] += more;
                    }
                    if (day(then, 0, all()).hunger[eater] == 0) {
                        return what == 0 ? more : more == 0 ? NONE : i;
                    }
                }
            }
            return NONE;
        }

        int seen() {
            byte[] t = tape;
            tape = new byte[0];
            List<int[]> rows = new ArrayList<>();
            for (int i = 0; i < t.length; i += 2) {
                if (i + 1 == t.length || (t[i] & 255) >= town.deed.size() || (t[i + 1] & 255) > 9) {
                    return no(5);
                }
                rows.add(new int[] {t[i], t[i + 1]});
            }
            if (rows.isEmpty() || rows.size() > 16) {
                return no(5);
            }
            seen = rows;
            return rows.size();
        }

        int came(int what) {
            int[] answer = {0, all(), 0};
            for (int who = 0; who <= all(); who++) {
                Day d = day(now, 0, who);
                if (seen.stream().allMatch(row -> d.left[row[0]] == row[1])) {
                    answer[0]++;
                    answer[1] &= who;
                    answer[2] |= who;
                }
            }
            if (answer[0] == 0) {
                answer[1] = 0;
            }
            return what < 0 || what > 2 ? NONE : answer[what];
        }

        int worth(Day d, int e, int s, int[] at) {
            int sum = 0;
            for (int i = 0; i < town.deed.size(); i++) {
                if (town.deed.get(i)[0] == s) {
                    sum += d.put[i] * town.likes(e, town.deed.get(i)[1]);
                }
            }
            int there = 1;
            for (int o = 0; o < at.length; o++) {
                there += o != e && at[o] == s ? 1 : 0;
            }
            return sum / there;
        }

        int rest(int eater) {
            if (town.statue.isEmpty() || eater < NONE || eater >= town.eater.size()) {
                return NONE;
            }
            Day d = day(now, 0, all());
            int[] at = new int[town.eater.size()];
            int round = 0;
            boolean moved = true;
            while (moved && round < 12) {
                moved = false;
                round++;
                for (int e = 0; e < at.length; e++) {
                    int most = -1;
                    for (int s = 0; s < town.statue.size(); s++) {
                        most = Math.max(most, worth(d, e, s, at));
                    }
                    if (worth(d, e, at[e], at) < most) {
                        int s = 0;
                        while (worth(d, e, s, at) < most) {
                            s++;
                        }
                        at[e] = s;
                        moved = true;
                    }
                }
            }
            return eater == NONE ? moved ? 13 : round : at[eater];
        }

        void act() {
            past.push(now.copy());
            if (past.size() > 20) {
                past.removeLast();
            }
        }

        int days(int n) {
            if (n < 1 || n > 100 || now.day + n > 9999) {
                return no(2);
            }
            act();
            int eaten = 0;
            for (int i = 0; i < n; i++) {
                eaten += pass(now, 0).eaten.size();
            }
            return eaten;
        }

        int draw(int m) {
            seed = (1103515245L * seed + 12345) % (1L << 31);
            return (int) (seed / 64 % m);
        }

        int chance(int n) {
            if (n < 1 || n > 100 || now.day + n > 9999) {
                return no(2);
            }
            act();
            int sieges = 0;
            for (int i = 0; i < n; i++) {
                int siege = draw(100) < town.siege ? 1 : 0;
                sieges += siege;
                pass(now, siege);
                if (draw(100) < 10) {
                    now.fund = Math.min(999999, now.fund + draw(100));
                }
            }
            return sieges;
        }

        int give(int coins) {
            if (coins < 1 || coins > 9999 || now.fund + coins > 999999) {
                return no(3);
            }
            act();
            return now.fund += coins;
        }

        int change(int deed, int portions) {
            if (deed < 0 || deed >= town.deed.size() || portions < 0 || portions > 9) {
                return no(3);
            }
            act();
            int before = now.told[deed];
            now.told[deed] = portions;
            return before;
        }

        int undo() {
            if (past.isEmpty()) {
                no(4);
                return 0;
            }
            now = past.pop();
            return 1;
        }

        int image() {
            int n = town.deed.size();
            picture = new int[6 + n];
            picture[0] = now.day / 256;
            picture[1] = now.day % 256;
            picture[2] = now.fund / 65536;
            picture[3] = now.fund / 256 % 256;
            picture[4] = now.fund % 256;
            System.arraycopy(now.told, 0, picture, 5, n);
            picture[5 + n] = check(picture);
            return picture.length;
        }

        static int check(int[] picture) {
            int c = 131;
            for (int i = 0; i < picture.length - 1; i++) {
                c = (5 * c + picture[i]) % 251;
            }
            return c;
        }

        int on() {
            int[] t = new int[tape.length];
            for (int i = 0; i < t.length; i++) {
                t[i] = tape[i] & 255;
            }
            tape = new byte[0];
            int n = town.deed.size();
            boolean good = t.length == 6 + n && t[0] * 256 + t[1] <= 9999
                && t[2] * 65536 + t[3] * 256 + t[4] <= 999999 && t[5 + n] == check(t);
            for (int i = 0; good && i < n; i++) {
                good = t[5 + i] <= 9;
            }
            if (!good) {
                no(5);
                return 0;
            }
            now.day = t[0] * 256 + t[1];
            now.fund = t[2] * 65536 + t[3] * 256 + t[4];
            now.told = Arrays.copyOfRange(t, 5, 5 + n);
            now.kept = List.of();
            past.clear();
            return 1;
        }

        int has(int what) {
            int[] has = {town.statue.size(), town.dish.size(), town.deed.size(), town.eater.size(), now.day, now.fund,
                town.grows, town.pace, town.siege, Arrays.stream(now.told).sum(), now.kept.size(), past.size(), (int) seed};
            return what < 0 || what >= has.length ? NONE : has[what];
        }

        int letter(int kind, int which, int k) {
            if (kind < 0 || kind > 2 || k < 0 || k > 5) {
                return NONE;
            }
            List<String> names = kind == 0 ? town.statues : kind == 1 ? town.dishes : town.eaters;
            if (which < 0 || which >= names.size()) {
                return NONE;
            }
            String n = names.get(which);
            return k < n.length() ? n.charAt(k) - 'a' + 1 : 0;
        }

        int statue(int s, int what) {
            if (s < 0 || s >= town.statue.size() || what < 0 || what > 3) {
                return NONE;
            }
            int[] answer = {town.statue.get(s)[0], 0, 0, 0};
            for (int i = 0; i < town.deed.size(); i++) {
                int[] d = town.deed.get(i);
                if (d[0] == s) {
                    answer[1]++;
                    answer[2] += now.told[i];
                    int warm = town.dish.get(d[1])[1];
                    answer[3] = answer[1] == 1 ? warm : Math.min(warm, answer[3]);
                }
            }
            return answer[what];
        }

        int dish(int d, int what) {
            if (d < 0 || d >= town.dish.size() || what < 0 || what > 2) {
                return NONE;
            }
            int sum = 0;
            for (int i = 0; i < town.deed.size(); i++) {
                sum += town.deed.get(i)[1] == d ? now.told[i] : 0;
            }
            return what == 2 ? sum : town.dish.get(d)[what];
        }

        int deed(int d, int what) {
            if (d < 0 || d >= town.deed.size() || what < 0 || what > 3) {
                return NONE;
            }
            return what == 2 ? now.told[d] : town.deed.get(d)[what == 3 ? 2 : what];
        }

        int eater(int e, int what) {
            if (e < 0 || e >= town.eater.size() || what < 0 || what >= 10 + town.dish.size() || what > 1 && what < 10) {
                return NONE;
            }
            return what >= 10 ? town.likes(e, what - 10) : town.eater.get(e)[what];
        }

        int kept(int k, int what) {
            return k < 0 || k >= now.kept.size() || what < 0 || what > 1 ? NONE : now.kept.get(k)[what];
        }
    }

    // ---- random texts

    private static final class Writer {
        final Random r;
        final StringBuilder t = new StringBuilder();
        final List<String> statues = new ArrayList<>();
        final List<String> dishes = new ArrayList<>();
        final List<String> eaters = new ArrayList<>();
        final int costs;

        Writer(Random random) {
            r = random;
            costs = r.nextInt(3) == 0 ? 100 : 1 + r.nextInt(8);
        }

        String name() {
            int n = 1 + r.nextInt(3);
            StringBuilder s = new StringBuilder();
            for (int i = 0; i < n; i++) {
                s.append((char) ('a' + r.nextInt(26)));
            }
            return s.toString();
        }

        String fresh(List<String> names) {
            String n = name();
            while (OWN.contains(n) || statues.contains(n) || dishes.contains(n) || eaters.contains(n)) {
                n = name() + name();
            }
            names.add(n);
            return n;
        }

        String any(List<String> names) {
            return names.isEmpty() ? "x" : names.get(r.nextInt(names.size()));
        }

        String write() {
            boolean wide = r.nextInt(3) == 0;
            int reach = wide ? 100 : 25;
            int s = r.nextInt(wide ? 6 : 9);
            int d = r.nextInt(9);
            int e = r.nextInt(6);
            for (int i = 0; i < s; i++) {
                t.append("statue ").append(fresh(statues)).append(" at ").append(r.nextInt(reach)).append(';');
            }
            for (int i = 0; i < d; i++) {
                int warm = r.nextInt(4) == 0 ? 1 + r.nextInt(60) : 100 + r.nextInt(900);
                t.append("dish ").append(fresh(dishes)).append(" costs ").append(r.nextInt(costs)).append(" warm ")
                    .append(warm).append(";");
            }
            deeds(s * d == 0 ? 0 : r.nextInt(Math.min(16, s * d) + 1));
            for (int i = 0; i < e; i++) {
                t.append("eater ").append(fresh(eaters)).append(" hunger ").append(1 + r.nextInt(r.nextBoolean() ? 20 : 6))
                    .append(" at ").append(r.nextInt(reach)).append(';');
            }
            for (int i = 0; e * d > 0 && i < r.nextInt(12); i++) {
                t.append("likes ").append(any(eaters)).append(' ').append(any(dishes)).append(' ')
                    .append(r.nextInt(100)).append(';');
            }
            if (r.nextBoolean()) {
                t.append("leaves ").append(r.nextInt(4) == 0 ? deep(true, 9) : sum(true, 3)).append(';');
            }
            if (r.nextBoolean()) {
                t.append("draws ").append(r.nextInt(4) == 0 ? deep(false, 8) : sum(false, 3)).append(';');
            }
            if (r.nextInt(4) != 0) {
                t.append("fund ").append(r.nextInt(r.nextBoolean() ? 300 : 10000)).append(" grows ")
                    .append(r.nextInt(r.nextBoolean() ? 20 : 101)).append(';');
            }
            if (r.nextInt(4) == 0) {
                t.append("pace ").append(1 + r.nextInt(20)).append(';');
            }
            if (r.nextBoolean()) {
                t.append("siege ").append(r.nextInt(101)).append(';');
            }
            return t.toString();
        }

        void deeds(int n) {
            List<String> told = new ArrayList<>();
            for (int i = 0; i < n * 3 && told.size() < n; i++) {
                String pair = any(statues) + " " + any(dishes);
                if (!told.contains(pair)) {
                    told.add(pair);
                    t.append("deed ").append(pair).append(' ').append(1 + r.nextInt(9)).append(';');
                }
            }
        }

        String sum(boolean leaves, int depth) {
            StringBuilder s = new StringBuilder(product(leaves, depth));
            for (int i = r.nextInt(3); i > 0; i--) {
                s.append(r.nextBoolean() ? '+' : '-').append(product(leaves, depth));
            }
            return s.toString();
        }

        String product(boolean leaves, int depth) {
            StringBuilder s = new StringBuilder(part(leaves, depth));
            for (int i = Math.max(0, r.nextInt(4) - 1); i > 0; i--) {
                s.append("*/%".charAt(r.nextInt(3))).append(part(leaves, depth));
            }
            return s.toString();
        }

        String part(boolean leaves, int depth) {
            String[] facts = leaves ? new String[] {"day", "fund", "told", "costs", "rank", "siege", "told"}
                : new String[] {"day", "fund", "likes", "off", "hunger", "left", "likes"};
            int what = r.nextInt(depth > 0 ? 9 : 5);
            switch (what) {
                case 0:
                    return String.valueOf(r.nextInt(r.nextInt(4) == 0 ? 10000 : 12));
                case 5:
                    return "(" + sum(leaves, depth - 1) + ")";
                case 6:
                    return "min(" + sum(leaves, depth - 1) + "," + sum(leaves, depth - 1) + ")";
                case 7:
                    return "max( " + sum(leaves, depth - 1) + " ,\n" + sum(leaves, depth - 1) + " )";
                case 8:
                    return "if(" + test(leaves, depth - 1) + "," + sum(leaves, depth - 1) + "," + sum(leaves, depth - 1) + ")";
                default:
                    return facts[r.nextInt(facts.length)];
            }
        }

        /** Narrow, but as deep as may be, or one too deep. */
        String deep(boolean leaves, int most) {
            if (r.nextInt(most + 1) == 0) {
                return sum(leaves, 0);
            }
            String more = deep(leaves, most - 1);
            switch (r.nextInt(5)) {
                case 0: return part(leaves, 0) + "*(" + more + ")";
                case 1: return "min(" + part(leaves, 0) + "," + more + ")+" + part(leaves, 0);
                case 2: return "if(" + (r.nextBoolean() ? "not not " : "") + more + "<7 or all," + part(leaves, 0) + ",1)";
                case 3: return "if([day=1 or [" + more + ">2]and all]," + part(leaves, 0) + "," + part(leaves, 0) + ")";
                default: return "(" + more + ")-" + part(leaves, 0);
            }
        }

        String test(boolean leaves, int depth) {
            StringBuilder s = new StringBuilder(fact(leaves, depth));
            for (int i = r.nextInt(3); i > 0; i--) {
                s.append(r.nextBoolean() ? " or " : " and ").append(fact(leaves, depth));
            }
            return s.toString();
        }

        String fact(boolean leaves, int depth) {
            int what = r.nextInt(6);
            if (what == 0 && depth > 0) {
                return "not " + fact(leaves, depth - 1);
            }
            if (what == 1 && depth > 0) {
                return "[" + test(leaves, depth - 1) + "]";
            }
            if (what == 2) {
                return "all";
            }
            return sum(leaves, 0) + "<>=".charAt(r.nextInt(3)) + sum(leaves, Math.max(0, depth - 1));
        }
    }

    private static String spoiled(Random r, String text) {
        StringBuilder t = new StringBuilder(text);
        String letters = " \n;()[],+-*/%<>=abstuednot0123456789#A";
        String[] words = {"statue ", "dish ", "deed ", "not ", "all ", "if(", "min(", "likes ", "told ", "[", "((((", "or ",
            "pace 3;", "leaves 1;", "draws 2;", "99999", "abcdefg", "10000", " ", "day"};
        for (int n = 1 + r.nextInt(2); n > 0 && t.length() > 0; n--) {
            int at = r.nextInt(t.length());
            switch (r.nextInt(8)) {
                case 5: case 6: case 7:
                    repeatStatement(r, t, at);
                    break;
                case 0:
                    t.deleteCharAt(at);
                    break;
                case 1:
                    t.setCharAt(at, letters.charAt(r.nextInt(letters.length())));
                    break;
                case 2:
                    t.insert(at, letters.charAt(r.nextInt(letters.length())));
                    break;
                case 3:
                    t.insert(at, words[r.nextInt(words.length)]);
                    break;
                default:
                    t.setLength(at);
            }
        }
        return t.toString();
    }

    /** A statement once more, or its name alone with others' letters, somewhere behind it. */
    private static void repeatStatement(Random r, StringBuilder t, int at) {
        int from = t.lastIndexOf(";", at - 1) + 1;
        int to = t.indexOf(";", at) + 1;
        if (to <= from) {
            return;
        }
        String statement = t.substring(from, to);
        int n = r.nextInt(4) == 0 ? 80 : 1 + r.nextInt(10);
        for (int i = 0; i < n; i++) {
            String other = r.nextInt(3) == 0 ? statement
                : statement.replaceFirst("(statue|dish|eater) [a-z]+", "$1 " + (char) ('a' + i % 26) + "qq");
            int end = t.indexOf(";", to + r.nextInt(Math.max(1, t.length() - to))) + 1;
            t.insert(end == 0 ? t.length() : end, other);
        }
    }

    // ---- runs

    private static int wrong = 0;
    private static int asked = 0;
    private static final int[] faults = new int[7];

    private static void due(int run, String call, int got, int want) {
        asked++;
        if (got != want) {
            wrong++;
            if (wrong < 40) {
                System.out.println("run " + run + ": " + call + " answered " + got + ", due is " + want);
            }
        }
    }

    private static void tape(int run, FedStatues x, Model m, byte[] bytes) {
        due(run, "end(0)", x.end(0) ? 1 : 0, m.end(0));
        for (int i = 0; i < bytes.length; i += 20) {
            int[] n = new int[5];
            for (int k = 0; k < 20; k++) {
                n[k / 4] = n[k / 4] << 8 | (i + k < bytes.length ? bytes[i + k] & 255 : 32);
            }
            due(run, "feed", x.feed(n[0], n[1], n[2], n[3], n[4]), m.feed(n));
        }
        due(run, "end", x.end(bytes.length) ? 1 : 0, m.end(bytes.length));
    }

    private static void tellCity(int run, Random r, FedStatues x, Model m, boolean spoil) {
        String text = new Writer(r).write();
        if (spoil) {
            text = spoiled(r, text);
        }
        if (text.length() > 1600) {
            text = text.substring(0, 1600);
        }
        tape(run, x, m, text.getBytes(StandardCharsets.ISO_8859_1));
        int before = wrong;
        due(run, "city()", x.city(), m.city());
        due(run, "fault(0)", x.fault(0), m.fault);
        due(run, "fault(1)", x.fault(1), m.place);
        faults[m.fault]++;
        if (wrong != before) {
            System.out.println("of the text: " + text);
        }
    }

    private static void tellBytes(int run, Random r, FedStatues x, Model m) {
        byte[] bytes;
        if (r.nextInt(3) == 0) {
            m.image();
            x.image();
            bytes = new byte[m.picture.length];
            for (int i = 0; i < bytes.length; i++) {
                bytes[i] = (byte) m.picture[i];
            }
            if (r.nextInt(3) == 0) {
                bytes[r.nextInt(bytes.length)] += 1;
            } else if (r.nextInt(3) == 0) {
                bytes[0] = (byte) r.nextInt(40);
                bytes[1] = (byte) r.nextInt(256);
                int[] p = new int[bytes.length];
                for (int i = 0; i < p.length; i++) {
                    p[i] = bytes[i] & 255;
                }
                bytes[bytes.length - 1] = (byte) Model.check(p);
            }
            tape(run, x, m, bytes);
            due(run, "on()", x.on() ? 1 : 0, m.on());
            return;
        }
        int rows = 1 + r.nextInt(3);
        bytes = new byte[2 * rows];
        Day d = m.day(m.now, 0, r.nextInt(m.all() + 1));
        for (int i = 0; i < rows; i++) {
            int deed = r.nextInt(m.town.deed.size() + (r.nextInt(9) == 0 ? 2 : 0) + 1);
            bytes[2 * i] = (byte) deed;
            bytes[2 * i + 1] = (byte) (deed < d.left.length && r.nextInt(8) != 0 ? d.left[deed] : r.nextInt(11));
        }
        tape(run, x, m, bytes);
        due(run, "seen()", x.seen(), m.seen());
    }

    private static void ask(int run, Random r, FedStatues x, Model m) {
        int a = r.nextInt(Math.max(1, m.town.deed.size()) + 1) - (r.nextInt(9) == 0 ? 1 : 0);
        int e = r.nextInt(Math.max(1, m.town.eater.size()) + 1) - (r.nextInt(6) == 0 ? 1 : 0);
        int w = r.nextInt(5) - (r.nextInt(9) == 0 ? 1 : 0);
        String args = "(" + a + "|" + e + "," + w + ")";
        switch (r.nextInt(27)) {
            case 0: due(run, "has", x.has(3 * w + a % 3), m.has(3 * w + a % 3)); break;
            case 1: due(run, "letter", x.letter(w - 1, e, a - 1), m.letter(w - 1, e, a - 1)); break;
            case 2: due(run, "statue" + args, x.statue(e, w), m.statue(e, w)); break;
            case 3: due(run, "dish" + args, x.dish(e, w), m.dish(e, w)); break;
            case 4: due(run, "deed" + args, x.deed(a, w), m.deed(a, w)); break;
            case 5: due(run, "eater" + args, x.eater(e, w > 1 ? 7 + a : w), m.eater(e, w > 1 ? 7 + a : w)); break;
            case 6: case 7: due(run, "plate" + args, x.plate(a, w), m.plate(a, w)); break;
            case 8: due(run, "meal" + args, x.meal(e, w), m.meal(e, w)); break;
            case 9: {
                int n = r.nextInt(r.nextInt(5) == 0 ? 64 : 8) - 1;
                due(run, "later" + n + args, x.later(n, w), m.later(n, w));
                break;
            }
            case 10: due(run, "broken" + args, x.broken(w), m.broken(w)); break;
            case 11: due(run, "round" + args, x.round(e - 1), m.round(e - 1)); break;
            case 12: {
                if (m.town.statue.size() < 6) {
                    due(run, "carriers", x.carriers(), m.carriers());
                }
                break;
            }
            case 13: {
                int coins = r.nextInt(r.nextInt(3) == 0 ? 10100 : 120) - 1;
                due(run, "keep" + coins + args, x.keep(coins, w), m.keep(coins, w));
                break;
            }
            case 14: due(run, "feeds" + args, x.feeds(e, w % 3), m.feeds(e, w % 3)); break;
            case 15: due(run, "came" + args, x.came(w), m.came(w)); break;
            case 16: case 17: due(run, "rest" + args, x.rest(e - 1), m.rest(e - 1)); break;
            case 18: {
                int n = r.nextInt(r.nextInt(9) == 0 ? 104 : 4) - 1;
                due(run, "days" + n, x.days(n), m.days(n));
                break;
            }
            case 19: {
                int n = r.nextInt(r.nextInt(9) == 0 ? 104 : 4) - 1;
                due(run, "chance" + n, x.chance(n), m.chance(n));
                due(run, "has(12)", x.has(12), m.has(12));
                break;
            }
            case 20: {
                int coins = r.nextInt(r.nextInt(3) == 0 ? 10100 : 120) - 2;
                due(run, "give" + coins, x.give(coins), m.give(coins));
                break;
            }
            case 21: due(run, "change" + args, x.change(a, w * 3 - 1), m.change(a, w * 3 - 1)); break;
            case 22: due(run, "undo", x.undo() ? 1 : 0, m.undo()); break;
            case 23: {
                int seed = r.nextInt(4) == 0 ? -1 - r.nextInt(9) : r.nextInt() & Integer.MAX_VALUE;
                due(run, "seed", x.seed(seed) ? 1 : 0, seed < 0 ? m.no(5) + 1 : 1);
                m.seed = seed < 0 ? m.seed : seed;
                break;
            }
            case 24: {
                int k = r.nextInt(Math.max(3, m.now.kept.size() + 2)) - 1;
                due(run, "kept" + k, x.kept(k, w % 3), m.kept(k, w % 3));
                break;
            }
            case 25: {
                due(run, "image", x.image(), m.image());
                for (int k = -1; k <= m.picture.length; k++) {
                    due(run, "octet" + k, x.octet(k), k < 0 || k == m.picture.length ? NONE : m.picture[k]);
                }
                break;
            }
            default: due(run, "status" + w, x.status(w), w < 0 ? NONE : m.refused[w]);
        }
    }

    public static void main(String[] args) {
        for (int run = 0; run < RUNS; run++) {
            Random r = new Random(1000003L * run + 17);
            FedStatues x = new FedStatues();
            Model m = new Model();
            int calls = r.nextInt(CALLS);
            tellCity(run, r, x, m, r.nextInt(4) == 0);
            for (int i = 0; i < calls; i++) {
                int what = r.nextInt(60);
                if (what == 0) {
                    tellCity(run, r, x, m, r.nextInt(3) != 0);
                } else if (what < 6) {
                    tellBytes(run, r, x, m);
                } else {
                    ask(run, r, x, m);
                }
            }
        }
        for (int run = 0; run < 8000; run++) {
            Random r = new Random(7919L * run + 5);
            tellCity(-run, r, new FedStatues(), new Model(), true);
        }
        System.out.println("cities by their faults: " + Arrays.toString(faults));
        System.out.println(asked + " answers asked for, " + wrong + " not as due");
        if (wrong != 0) {
            System.exit(1);
        }
    }
}
