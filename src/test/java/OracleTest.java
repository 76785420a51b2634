import java.util.ArrayList;
import java.util.List;
import java.util.Random;

/** Runs of calls, drawn with set seeds, on PlateCity and on the oracle: every answer must be the same. */
public final class OracleTest {
    // The last step may make some forty calls more; what later calls than the 512th answer is free.
    private static final int CALLS = 470;
    private static final int CALLS_BEFORE_POLICIES = 300;

    private final Random random;
    private final PlateCity city = new PlateCity();
    private final Oracle oracle = new Oracle();
    private final List<String> said = new ArrayList<>();
    private boolean wrong = false;

    private OracleTest(long seed) {
        random = new Random(seed);
    }

    public static void main(String[] args) {
        int runs = args.length > 0 ? Integer.parseInt(args[0]) : 400;
        long from = args.length > 1 ? Long.parseLong(args[1]) : 0;
        for (long seed = from; seed < from + runs; seed++) {
            OracleTest test = new OracleTest(seed);
            try {
                test.go();
            } catch (RuntimeException thrown) {
                test.wrong = true;
                test.said.add("threw " + thrown);
                thrown.printStackTrace(System.out);
            }
            if (test.wrong) {
                System.out.println("seed " + seed + " differs:");
                test.said.forEach(line -> System.out.println("  " + line));
                System.exit(1);
            }
        }
        System.out.println(runs + " runs of some " + CALLS + " calls agree with the oracle");
    }

    private void go() {
        boolean texts = random.nextInt(4) == 0;
        if (!texts) {
            settleIn();
        }
        while (said.size() < CALLS && !wrong) {
            if (texts && random.nextInt(3) > 0) {
                tellTerms();
            } else {
                anyCall();
            }
        }
    }

    private void check(String call, long got, long due) {
        said.add(call + " = " + got);
        if (got != due) {
            said.add("due is " + due);
            wrong = true;
        }
    }

    private static long bit(boolean is) {
        return is ? 1 : 0;
    }

    // Mostly what can be, now and then a little off, seldom far off.
    private int about(int least, int most) {
        int chance = random.nextInt(60);
        if (chance == 0) {
            return least - 1 - random.nextInt(3);
        }
        if (chance == 1) {
            return most + 1 + random.nextInt(3);
        }
        if (chance == 2) {
            return random.nextInt();
        }
        if (chance == 3) {
            return random.nextBoolean() ? Integer.MIN_VALUE : Integer.MAX_VALUE;
        }
        return chance < 8 ? (random.nextBoolean() ? least : most) : least + random.nextInt(most - least + 1);
    }

    private int aCell() {
        if (random.nextInt(3) > 0 && !oracle.houses.isEmpty()) {
            List<Integer> cells = new ArrayList<>(oracle.houses.keySet());
            return cells.get(random.nextInt(cells.size()));
        }
        return about(0, oracle.wide * oracle.high - 1);
    }

    private int aPolicy() {
        List<Integer> policies = new ArrayList<>();
        for (int act = 1; act <= oracle.acts.size(); act++) {
            if (oracle.acts.get(act - 1).kind() == 'p') {
                policies.add(act);
            }
        }
        return policies.isEmpty() || random.nextInt(5) == 0 ? about(0, Math.max(1, oracle.acts.size()))
            : policies.get(random.nextInt(policies.size()));
    }

    private void settleIn() {
        int wide = 1 + random.nextInt(random.nextBoolean() ? 4 : 12);
        int high = 1 + random.nextInt(random.nextBoolean() ? 3 : 10);
        if (random.nextInt(20) == 0) {
            wide = 12;
            high = 10;
        }
        check("city " + wide + " " + high, bit(city.city(wide, high)), bit(oracle.city(wide, high)));
        int dense = 1 + random.nextInt(10);
        int firm = 1 + random.nextInt(4);
        for (int cell = 0; cell < wide * high; cell++) {
            if (random.nextInt(10) < dense) {
                int wall = random.nextInt(firm);
                int trade = random.nextInt(6);
                int worth = random.nextInt(10000);
                check("house " + cell + " " + wall + " " + trade + " " + worth,
                    bit(city.house(cell, wall, trade, worth)), bit(oracle.house(cell, wall, trade, worth)));
            }
        }
        for (int trade = 0; trade < 6; trade++) {
            int n = random.nextInt(10);
            check("hazard " + trade + " " + n, bit(city.hazard(trade, n)), bit(oracle.hazard(trade, n)));
        }
        for (int i = random.nextInt(20); i > 0 && !wrong && said.size() < CALLS_BEFORE_POLICIES; i--) {
            tellTerms();
        }
        for (int i = random.nextInt(60); i > 0; i--) {
            policy();
        }
        for (int i = random.nextInt(5); i > 0; i--) {
            engine();
        }
        for (int i = random.nextInt(25); i > 0; i--) {
            coinAndDeal();
        }
    }

    private void anyCall() {
        switch (random.nextInt(40)) {
            case 0, 1 -> tellTerms();
            case 2, 3, 4 -> policy();
            case 5 -> engine();
            case 6 -> coinAndDeal();
            case 7 -> cityCalls();
            case 8, 9, 10, 11 -> acts();
            case 12, 13, 14 -> run();
            case 15 -> worst();
            case 16, 17 -> plan();
            case 18 -> tape();
            default -> look();
        }
    }

    private void policy() {
        int cell = aCell();
        int office = about(0, 8);
        int sum = random.nextBoolean() ? about(1, 99999) : about(1, 4000);
        check("policy " + cell + " " + office + " " + sum, city.policy(cell, office, sum),
            oracle.policy(cell, office, sum));
    }

    private void engine() {
        int office = about(0, 8);
        int cell = aCell();
        int goes = about(1, 9);
        int pours = about(1, 9);
        check("engine " + office + " " + cell + " " + goes + " " + pours, city.engine(office, cell, goes, pours),
            oracle.engine(office, cell, goes, pours));
    }

    private void coinAndDeal() {
        int office = about(0, 8);
        int n = random.nextBoolean() ? about(0, 100000000) : about(0, 5000);
        check("coin " + office + " " + n, bit(city.coin(office, n)), bit(oracle.coin(office, n)));
        int bears = about(0, 8);
        int of = about(0, 8);
        int part = about(0, 1000);
        check("deal " + bears + " " + of + " " + part, bit(city.deal(bears, of, part)),
            bit(oracle.deal(bears, of, part)));
    }

    private void cityCalls() {
        int chance = random.nextInt(20);
        if (chance == 0) {
            int wide = about(1, 12);
            int high = about(1, 10);
            check("city " + wide + " " + high, bit(city.city(wide, high)), bit(oracle.city(wide, high)));
        } else if (chance < 7) {
            int cell = aCell();
            int wall = about(0, 3);
            int trade = about(0, 5);
            int worth = about(0, 9999);
            check("house " + cell + " " + wall + " " + trade + " " + worth,
                bit(city.house(cell, wall, trade, worth)), bit(oracle.house(cell, wall, trade, worth)));
        } else if (chance < 11) {
            int cell = aCell();
            boolean is = random.nextInt(3) > 0;
            check("plug " + cell + " " + is, bit(city.plug(cell, is)), bit(oracle.plug(cell, is)));
        } else if (chance < 13) {
            int trade = about(0, 5);
            int n = about(0, 9);
            check("hazard " + trade + " " + n, bit(city.hazard(trade, n)), bit(oracle.hazard(trade, n)));
        } else {
            int minute = about(1, 120);
            int way = about(0, 7);
            int strong = about(0, 20);
            check("wind " + minute + " " + way + " " + strong, bit(city.wind(minute, way, strong)),
                bit(oracle.wind(minute, way, strong)));
        }
    }

    private void acts() {
        if (random.nextInt(3) == 0) {
            int act = about(0, Math.max(1, oracle.acts.size()));
            check("annul " + act, city.annul(act), oracle.annul(act));
        } else if (random.nextInt(4) == 0) {
            int act = random.nextBoolean() ? -1 : about(-1, oracle.acts.size());
            check("as " + act, bit(city.as(act)), bit(oracle.as(act)));
        } else if (random.nextInt(3) == 0) {
            int office = about(0, 8);
            check("force " + office, city.force(office), oracle.force(office));
        } else if (random.nextBoolean()) {
            int act = aPolicy();
            check("premium " + act, city.premium(act), oracle.premium(act));
        } else {
            int cell = aCell();
            check("helps " + cell, city.helps(cell), oracle.helps(cell));
        }
    }

    private void run() {
        int cell = aCell();
        int minutes = random.nextBoolean() ? about(1, 120) : about(1, 20);
        check("run " + cell + " " + minutes, city.run(cell, minutes), oracle.run(cell, minutes));
        for (int i = 0; i < 6; i++) {
            look();
        }
    }

    private void look() {
        int what = about(0, 5);
        switch (random.nextInt(9)) {
            case 0, 1, 2 -> {
                int cell = aCell();
                check("burnt " + cell + " " + what, city.burnt(cell, what), oracle.burnt(cell, what));
            }
            case 3 -> {
                int engine = about(0, 5);
                check("came " + engine + " " + what, city.came(engine, what), oracle.came(engine, what));
            }
            case 4, 5 -> {
                int act = aPolicy();
                what = about(0, 1);
                check("claim " + act + " " + what, city.claim(act, what), oracle.claim(act, what));
            }
            case 6 -> {
                int office = about(0, 8);
                check("settled " + office, city.settled(office), oracle.settled(office));
                check("lost", city.lost(), oracle.lost());
            }
            case 7 -> {
                int office = about(0, 8);
                check("fall " + office + " " + what, city.fall(office, what), oracle.fall(office, what));
                check("rounds", city.rounds(), oracle.rounds());
            }
            default -> {
                what = about(0, 6);
                check("all " + what, city.all(what), oracle.all(what));
            }
        }
    }

    private void worst() {
        int office = about(0, 8);
        int minutes = about(1, 60);
        check("worst " + office + " " + minutes, city.worst(office, minutes), oracle.worst(office, minutes));
    }

    private void plan() {
        if (random.nextInt(2) == 0) {
            int cell = aCell();
            check("place " + cell, city.place(cell), oracle.place(cell));
            return;
        }
        int k = about(1, 3);
        int office = about(0, 8);
        int goes = about(1, 9);
        int pours = about(1, 9);
        int cell = aCell();
        int minutes = about(1, 60);
        check("plan " + k + " " + office + " " + goes + " " + pours + " " + cell + " " + minutes,
            city.plan(k, office, goes, pours, cell, minutes), oracle.plan(k, office, goes, pours, cell, minutes));
        int i = about(0, 2);
        check("planned " + i, city.planned(i), oracle.planned(i));
    }

    private void tape() {
        if (random.nextInt(3) == 0) {
            int n = about(0, Math.max(1, oracle.tape.length));
            check("end " + n, bit(city.end(n)), bit(oracle.end(n)));
            return;
        }
        int[] five = {random.nextInt(), random.nextInt(), 0x20202020, random.nextInt(), 0x20202020};
        check("feed", city.feed(five[0], five[1], five[2], five[3], five[4]),
            oracle.feed(five[0], five[1], five[2], five[3], five[4]));
    }

    private void tellTerms() {
        if (oracle.tape.length > 0) {
            check("end 0", bit(city.end(0)), bit(oracle.end(0)));
        }
        String text = new TermsMaker(random).make();
        said.add("text " + text);
        for (int from = 0; from < text.length() && !wrong; from += 20) {
            int[] five = new int[5];
            for (int i = 0; i < 20; i++) {
                int sign = from + i < text.length() ? text.charAt(from + i) : ' ';
                five[i / 4] = five[i / 4] << 8 | sign;
            }
            check("feed", city.feed(five[0], five[1], five[2], five[3], five[4]),
                oracle.feed(five[0], five[1], five[2], five[3], five[4]));
        }
        check("end " + text.length(), bit(city.end(text.length())), bit(oracle.end(text.length())));
        int office = about(0, 8);
        check("terms " + office, city.terms(office), oracle.terms(office));
        check("fault 0", city.fault(0), oracle.fault(0));
        check("fault 1", city.fault(1), oracle.fault(1));
    }
}
