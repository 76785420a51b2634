import java.util.ArrayList;
import java.util.Arrays;
import java.util.HashMap;
import java.util.HashSet;
import java.util.List;
import java.util.Map;
import java.util.Set;
import java.util.TreeMap;

/** The document once more, written another way (maps, strings, a table-driven reader), to hold PlateCity against. */
final class Oracle {
    static final int NONE = -1;
    static final int[][] WAY = {{-1, 0}, {-1, 1}, {0, 1}, {1, 1}, {1, 0}, {1, -1}, {0, -1}, {-1, -1}};

    record House(int wall, int trade, int worth) {
        int resist() {
            return wall == 0 ? 40 : wall == 1 ? 60 : wall == 2 ? 100 : 160;
        }

        int fuel() {
            return wall == 0 ? 15 : wall == 1 ? 25 : wall == 2 ? 40 : 60;
        }
    }

    record Engine(int office, int cell, int goes, int pours) { }

    record Act(char kind, int cell, int office, int sum, List<List<String>> terms, int voids) { }

    static final class Scene {
        Map<Integer, House> houses = new TreeMap<>();
        List<Engine> engines = new ArrayList<>();
        int[] heat = new int[120];
        int[] fire = new int[120];
        int[] minutes = new int[120];
        int[] began = new int[120];
        Set<Integer> burning = new HashSet<>();
        Set<Integer> down = new HashSet<>();
        int[] at = new int[12];
        int[] aim = new int[12];
        int[] poured = new int[12];
        Map<Integer, Integer> asks = new TreeMap<>();
        Map<Integer, Integer> gets = new TreeMap<>();
        int[] byOffice = new int[9];

        int loss(int cell) {
            House h = houses.get(cell);
            return h == null ? 0 : h.worth() * minutes[cell] / h.fuel();
        }

        int lost() {
            return houses.keySet().stream().mapToInt(this::loss).sum();
        }
    }

    byte[] tape = {};
    int wide = 1;
    int high = 1;
    Map<Integer, House> houses = new TreeMap<>();
    Set<Integer> plugs = new HashSet<>();
    int[] hazards = new int[6];
    TreeMap<Integer, int[]> winds = new TreeMap<>();
    int[] coins = new int[9];
    List<Engine> engines = new ArrayList<>();
    int[][] deals = new int[9][9];
    List<Act> acts = new ArrayList<>();
    int as = NONE;
    int fault = 0;
    int faultAt = NONE;
    Scene latest;
    List<Integer> told = new ArrayList<>();
    List<Integer> planned = new ArrayList<>();

    // ---- the tape and the city

    int feed(int a, int b, int c, int d, int e) {
        if (tape.length > 580) {
            return NONE;
        }
        byte[] longer = Arrays.copyOf(tape, tape.length + 20);
        int[] five = {a, b, c, d, e};
        for (int i = 0; i < 20; i++) {
            longer[tape.length + i] = (byte) (five[i / 4] >> (24 - 8 * (i % 4)));
        }
        tape = longer;
        return tape.length;
    }

    boolean end(int n) {
        if (n < 0 || n > tape.length) {
            return false;
        }
        tape = Arrays.copyOf(tape, n);
        return true;
    }

    boolean city(int w, int h) {
        if (w < 1 || w > 12 || h < 1 || h > 10) {
            return false;
        }
        wide = w;
        high = h;
        houses = new TreeMap<>();
        plugs = new HashSet<>();
        winds = new TreeMap<>();
        engines = new ArrayList<>();
        deals = new int[9][9];
        acts = new ArrayList<>();
        as = NONE;
        latest = null;
        told = new ArrayList<>();
        planned = new ArrayList<>();
        return true;
    }

    boolean isCell(int cell) {
        return cell >= 0 && cell < wide * high;
    }

    boolean house(int cell, int wall, int trade, int worth) {
        if (!isCell(cell) || wall < 0 || wall > 3 || trade < 0 || trade > 5 || worth < 0 || worth > 9999) {
            return false;
        }
        houses.put(cell, new House(wall, trade, worth));
        return true;
    }

    boolean plug(int cell, boolean is) {
        if (!isCell(cell)) {
            return false;
        }
        if (is) {
            plugs.add(cell);
        } else {
            plugs.remove(cell);
        }
        return true;
    }

    boolean hazard(int trade, int n) {
        if (trade < 0 || trade > 5 || n < 0 || n > 9) {
            return false;
        }
        hazards[trade] = n;
        return true;
    }

    boolean wind(int minute, int way, int strong) {
        if (minute < 1 || minute > 120 || way < 0 || way > 7 || strong < 0 || strong > 20) {
            return false;
        }
        winds.put(minute, new int[] {way, strong});
        return true;
    }

    boolean coin(int office, int n) {
        if (office < 0 || office > 8 || n < 0 || n > 100000000) {
            return false;
        }
        coins[office] = n;
        return true;
    }

    int engine(int office, int cell, int goes, int pours) {
        if (office < 0 || office > 8 || !isCell(cell) || goes < 1 || goes > 9 || pours < 1 || pours > 9
            || engines.size() == 12) {
            return NONE;
        }
        engines.add(new Engine(office, cell, goes, pours));
        return engines.size() - 1;
    }

    boolean deal(int bears, int of, int part) {
        if (bears < 0 || bears > 8 || of < 0 || of > 8 || bears == of || part < 0 || part > 1000) {
            return false;
        }
        deals[bears][of] = part;
        return true;
    }

    // ---- acts

    int terms(int office) {
        String text = "";
        for (byte b : tape) {
            text += (char) (b & 255);
        }
        tape = new byte[0];
        if (office < 0 || office > 8 || acts.size() == 200) {
            return -2;
        }
        List<List<String>> statements = new ArrayList<>();
        int[] found = OracleReader.faultOf(text, statements);
        fault = found[0];
        faultAt = found[1];
        if (fault != 0) {
            return NONE;
        }
        acts.add(new Act('t', 0, office, 0, statements, 0));
        return acts.size();
    }

    int fault(int what) {
        return what == 0 ? fault : what == 1 ? faultAt : NONE;
    }

    int policy(int cell, int office, int sum) {
        if (!houses.containsKey(cell) || office < 0 || office > 8 || sum < 1 || sum > 99999 || acts.size() == 200) {
            return NONE;
        }
        acts.add(new Act('p', cell, office, sum, null, 0));
        return acts.size();
    }

    int annul(int act) {
        if (act < 1 || act > acts.size() || acts.size() == 200 || acts.get(act - 1).kind() == 'v') {
            return NONE;
        }
        for (Act a : acts) {
            if (a.kind() == 'v' && a.voids() == act) {
                return NONE;
            }
        }
        acts.add(new Act('v', 0, 0, 0, null, act));
        return acts.size();
    }

    boolean as(int act) {
        if (act < -1 || act > acts.size()) {
            return false;
        }
        as = act;
        return true;
    }

    int seen() {
        return as == NONE ? acts.size() : as;
    }

    boolean isKnown(int act) {
        if (act < 1 || act > seen()) {
            return false;
        }
        for (int i = 0; i < seen(); i++) {
            if (acts.get(i).kind() == 'v' && acts.get(i).voids() == act) {
                return false;
            }
        }
        return true;
    }

    List<List<String>> termsOf(int office) {
        for (int act = seen(); act >= 1; act--) {
            Act a = acts.get(act - 1);
            if (a.kind() == 't' && a.office() == office && isKnown(act)) {
                return a.terms();
            }
        }
        return null;
    }

    List<Integer> policiesOn(int cell) {
        List<Integer> on = new ArrayList<>();
        for (int act = 1; act <= seen(); act++) {
            Act a = acts.get(act - 1);
            if (a.kind() == 'p' && a.cell() == cell && isKnown(act)) {
                on.add(act);
            }
        }
        return on;
    }

    int force(int office) {
        if (office < 0 || office > 8) {
            return NONE;
        }
        List<List<String>> t = termsOf(office);
        return t == null ? NONE : t.size();
    }

    Map<String, Integer> factsOf(int cell, int sum, int others, int loss) {
        House h = houses.get(cell);
        Map<String, Integer> facts = new HashMap<>();
        facts.put("wall", h.wall());
        facts.put("trade", h.trade());
        facts.put("worth", h.worth());
        facts.put("sum", sum);
        facts.put("others", others);
        facts.put("loss", loss);
        int near = 0;
        for (int other : houses.keySet()) {
            if (other != cell && Math.abs(other / wide - cell / wide) <= 1
                && Math.abs(other % wide - cell % wide) <= 1) {
                near++;
            }
        }
        facts.put("near", near);
        for (int act : policiesOn(cell)) {
            facts.put("office" + acts.get(act - 1).office(), 1);
        }
        return facts;
    }

    static boolean anyHolds(List<List<String>> terms, String word, Map<String, Integer> facts) {
        return terms.stream().anyMatch(s -> s.get(0).equals(word) && new OracleReader.Value(s, facts).test());
    }

    static int lastSum(List<List<String>> terms, String word, Map<String, Integer> facts, int without) {
        int value = without;
        for (List<String> s : terms) {
            if (s.get(0).equals(word)) {
                value = (int) new OracleReader.Value(s, facts).sum();
            }
        }
        return value;
    }

    int premium(int act) {
        if (act < 1 || act > acts.size() || acts.get(act - 1).kind() != 'p' || !isKnown(act)) {
            return NONE;
        }
        Act a = acts.get(act - 1);
        List<List<String>> t = termsOf(a.office());
        if (t == null) {
            return 0;
        }
        return Math.max(0, lastSum(t, "premium",
            factsOf(a.cell(), a.sum(), policiesOn(a.cell()).size() - 1, 0), 0));
    }

    int helps(int cell) {
        if (!houses.containsKey(cell)) {
            return NONE;
        }
        Map<String, Integer> facts = factsOf(cell, 0, policiesOn(cell).size(), 0);
        int bits = 0;
        for (int office = 0; office < 9; office++) {
            List<List<String>> t = termsOf(office);
            if (facts.containsKey("office" + office) || t != null && anyHolds(t, "help", facts)) {
                bits |= 1 << office;
            }
        }
        return bits;
    }

    // ---- a fire

    Scene burn(int start, int minutes, List<Engine> driven) {
        Scene s = new Scene();
        s.houses = new TreeMap<>(houses);
        s.engines = new ArrayList<>(driven);
        Arrays.fill(s.began, NONE);
        Arrays.fill(s.aim, NONE);
        Arrays.fill(s.poured, NONE);
        Map<Integer, Integer> helpers = new HashMap<>();
        houses.keySet().forEach(c -> helpers.put(c, helps(c)));
        for (int e = 0; e < driven.size(); e++) {
            s.at[e] = driven.get(e).cell();
        }
        s.burning.add(start);
        s.fire[start] = 1;
        s.began[start] = 0;
        for (int t = 1; t <= minutes; t++) {
            for (int c : new ArrayList<>(s.burning)) {
                s.fire[c] = Math.min(9, s.fire[c] + 1);
                if (++s.minutes[c] == houses.get(c).fuel()) {
                    s.burning.remove(c);
                    s.down.add(c);
                    s.fire[c] = 0;
                }
            }
            warm(s, t);
            for (int e = 0; t >= 3 && e < driven.size(); e++) {
                drive(s, e, t, helpers);
            }
        }
        return s;
    }

    // Each house that may catch gathers from the burning ones, in place of these giving to all around.
    void warm(Scene s, int t) {
        Map.Entry<Integer, int[]> told = winds.floorEntry(t);
        List<Integer> caught = new ArrayList<>();
        for (int c : houses.keySet()) {
            if (s.burning.contains(c) || s.down.contains(c)) {
                continue;
            }
            int heat = Math.max(0, s.heat[c] - 2);
            for (int way = 0; way < 8; way++) {
                int row = c / wide - WAY[way][0];
                int column = c % wide - WAY[way][1];
                if (row < 0 || row >= high || column < 0 || column >= wide) {
                    continue;
                }
                int from = row * wide + column;
                if (s.burning.contains(from)) {
                    heat += s.fire[from] + hazards[houses.get(from).trade()];
                    heat += told != null && told.getValue()[0] == way ? told.getValue()[1] : 0;
                }
            }
            s.heat[c] = heat;
            if (heat >= houses.get(c).resist()) {
                caught.add(c);
            }
        }
        for (int c : caught) {
            s.burning.add(c);
            s.fire[c] = 1;
            if (s.began[c] == NONE) {
                s.began[c] = t;
            }
        }
    }

    int apart(int a, int b) {
        return Math.abs(a / wide - b / wide) + Math.abs(a % wide - b % wide);
    }

    void drive(Scene s, int e, int t, Map<Integer, Integer> helpers) {
        Engine engine = s.engines.get(e);
        if (s.aim[e] == NONE || !s.burning.contains(s.aim[e])) {
            s.aim[e] = NONE;
            for (int c : houses.keySet()) {
                if (s.burning.contains(c) && (helpers.get(c) >> engine.office() & 1) == 1
                    && (s.aim[e] == NONE || apart(s.at[e], c) < apart(s.at[e], s.aim[e]))) {
                    s.aim[e] = c;
                }
            }
        }
        if (s.aim[e] == NONE) {
            return;
        }
        for (int step = 0; step < engine.goes() && s.at[e] != s.aim[e]; step++) {
            int columns = Integer.signum(s.aim[e] % wide - s.at[e] % wide);
            s.at[e] += columns != 0 ? columns : s.aim[e] > s.at[e] ? wide : -wide;
        }
        if (s.at[e] != s.aim[e]) {
            return;
        }
        int c = s.aim[e];
        boolean wet = plugs.stream().anyMatch(p -> apart(p, c) <= 3);
        s.fire[c] -= wet ? engine.pours() : engine.pours() / 2;
        if (s.poured[e] == NONE) {
            s.poured[e] = t;
        }
        if (s.fire[c] <= 0) {
            s.fire[c] = 0;
            s.heat[c] = 0;
            s.burning.remove(c);
        }
    }

    int run(int cell, int minutes) {
        if (!houses.containsKey(cell) || minutes < 1 || minutes > 120) {
            return NONE;
        }
        latest = burn(cell, minutes, engines);
        settle(latest);
        return latest.burning.size() + latest.down.size();
    }

    int burnt(int cell, int what) {
        if (latest == null || !latest.houses.containsKey(cell) || what < 0 || what > 5) {
            return NONE;
        }
        int state = latest.burning.contains(cell) ? 1 : latest.down.contains(cell) ? 2 : 0;
        return new int[] {state, latest.heat[cell], latest.fire[cell], latest.minutes[cell], latest.loss(cell),
            latest.began[cell]}[what];
    }

    int came(int engine, int what) {
        if (latest == null || engine < 0 || engine >= latest.engines.size() || what < 0 || what > 2) {
            return NONE;
        }
        return new int[] {latest.at[engine], latest.aim[engine], latest.poured[engine]}[what];
    }

    int lost() {
        return latest == null ? NONE : latest.lost();
    }

    // ---- claims

    String besideOf(int act) {
        List<List<String>> t = termsOf(acts.get(act - 1).office());
        String beside = "parts";
        if (t != null) {
            for (List<String> s : t) {
                beside = s.get(0).equals("beside") ? s.get(1) : beside;
            }
        }
        return beside;
    }

    int askOf(int act, int others, int loss) {
        Act a = acts.get(act - 1);
        List<List<String>> t = termsOf(a.office());
        if (loss == 0 || t == null) {
            return 0;
        }
        Map<String, Integer> facts = factsOf(a.cell(), a.sum(), others, loss);
        if (anyHolds(t, "void", facts) || !anyHolds(t, "cover", facts)) {
            return 0;
        }
        return Math.max(0, Math.min(a.sum(), lastSum(t, "pay", facts, loss)));
    }

    void settle(Scene s) {
        for (int cell : s.houses.keySet()) {
            List<Integer> on = policiesOn(cell);
            for (int act : on) {
                s.asks.put(act, askOf(act, on.size() - 1, s.loss(cell)));
                s.gets.put(act, 0);
            }
            int left = inTurn(s, on.stream().filter(a -> besideOf(a).equals("first")).toList(), s.loss(cell));
            left = byParts(s, on.stream().filter(a -> besideOf(a).equals("parts")).toList(), left);
            inTurn(s, on.stream().filter(a -> besideOf(a).equals("after")).toList(), left);
            on.forEach(a -> s.byOffice[acts.get(a - 1).office()] += s.gets.get(a));
        }
    }

    static int inTurn(Scene s, List<Integer> group, int left) {
        for (int act : group) {
            int pays = Math.min(left, s.asks.get(act));
            s.gets.put(act, pays);
            left -= pays;
        }
        return left;
    }

    static int byParts(Scene s, List<Integer> group, int left) {
        long all = group.stream().mapToLong(s.asks::get).sum();
        if (all <= left) {
            return inTurn(s, group, left);
        }
        long whole = left;
        int given = 0;
        for (int act : group) {
            int floor = (int) (whole * s.asks.get(act) / all);
            s.gets.put(act, floor);
            given += floor;
        }
        group.stream()
            .sorted((a, b) -> {
                int rests = Long.compare(whole * s.asks.get(b) % all, whole * s.asks.get(a) % all);
                return rests != 0 ? rests : Integer.compare(a, b);
            })
            .limit(left - given)
            .forEach(a -> s.gets.merge(a, 1, Integer::sum));
        return 0;
    }

    int claim(int act, int what) {
        if (latest == null || !latest.asks.containsKey(act) || what < 0 || what > 1) {
            return NONE;
        }
        return what == 0 ? latest.asks.get(act) : latest.gets.get(act);
    }

    int settled(int office) {
        return latest == null || office < 0 || office > 8 ? NONE : latest.byOffice[office];
    }

    long[] fallOf(int office) {
        long[][] owes = new long[9][10];
        for (int i = 0; i < 9; i++) {
            owes[i][9] = latest.byOffice[i];
            for (int j = 0; j < 9; j++) {
                owes[i][j] = (long) latest.byOffice[j] * deals[i][j] / 1000;
            }
        }
        long[][] pays = owes;
        int rounds = 0;
        for (boolean changed = true; changed && rounds < 100; rounds++) {
            long[][] now = new long[9][10];
            for (int i = 0; i < 9; i++) {
                long has = coins[i];
                for (int j = 0; j < 9; j++) {
                    has += pays[j][i];
                }
                long due = Arrays.stream(owes[i]).sum();
                for (int j = 0; j < 10; j++) {
                    now[i][j] = has < due ? Math.floorDiv(owes[i][j] * has, due) : owes[i][j];
                }
            }
            changed = !Arrays.deepEquals(now, pays);
            pays = now;
        }
        long due = Arrays.stream(owes[office]).sum();
        long paid = Arrays.stream(pays[office]).sum();
        return new long[] {due, paid, paid < due ? 1 : 0, pays[office][9], rounds};
    }

    long fall(int office, int what) {
        return latest == null || office < 0 || office > 8 || what < 0 || what > 3 ? NONE : fallOf(office)[what];
    }

    int rounds() {
        return latest == null ? NONE : (int) fallOf(0)[4];
    }

    // ---- what is sought

    int worst(int office, int minutes) {
        if (office < 0 || office > 8 || minutes < 1 || minutes > 60) {
            return NONE;
        }
        int most = 0;
        int found = NONE;
        for (int cell : houses.keySet()) {
            Scene s = burn(cell, minutes, engines);
            settle(s);
            if (s.byOffice[office] > most) {
                most = s.byOffice[office];
                found = cell;
            }
        }
        return found;
    }

    int place(int cell) {
        if (!isCell(cell) || told.contains(cell) || told.size() == 8) {
            return NONE;
        }
        told.add(cell);
        return told.size();
    }

    int plan(int k, int office, int goes, int pours, int cell, int minutes) {
        if (k < 1 || k > 3 || k > told.size() || office < 0 || office > 8 || goes < 1 || goes > 9 || pours < 1
            || pours > 9 || !houses.containsKey(cell) || minutes < 1 || minutes > 60 || engines.size() + k > 12) {
            return NONE;
        }
        List<List<Integer>> sets = new ArrayList<>();
        setsFrom(0, k, new ArrayList<>(), sets);
        int least = Integer.MAX_VALUE;
        for (List<Integer> set : sets) {
            List<Engine> more = new ArrayList<>(engines);
            set.forEach(i -> more.add(new Engine(office, told.get(i), goes, pours)));
            int loss = burn(cell, minutes, more).lost();
            if (loss < least) {
                least = loss;
                planned = set.stream().map(told::get).toList();
            }
        }
        return least;
    }

    void setsFrom(int from, int k, List<Integer> set, List<List<Integer>> sets) {
        if (k == 0) {
            sets.add(new ArrayList<>(set));
            return;
        }
        for (int i = from; i < told.size(); i++) {
            set.add(i);
            setsFrom(i + 1, k - 1, set, sets);
            set.remove(set.size() - 1);
        }
    }

    int planned(int i) {
        return i < 0 || i >= planned.size() ? NONE : planned.get(i);
    }

    int all(int what) {
        return switch (what) {
            case 0 -> wide * high;
            case 1 -> houses.size();
            case 2 -> engines.size();
            case 3 -> acts.size();
            case 4 -> seen();
            case 5 -> told.size();
            case 6 -> plugs.size();
            default -> NONE;
        };
    }
}
