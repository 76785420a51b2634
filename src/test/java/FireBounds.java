/** The boundary cases of a fire: promises 20 to 23, and section IV of the document's terms. */
public final class FireBounds {
    private static final int[] RESIST = {40, 60, 100, 160};
    private static final int[] FUEL = {15, 25, 40, 60};

    private FireBounds() { }

    public static void main(String[] args) {
        runWhat();
        runCounts();
        runRefused();
        beginning();
        fireGrows();
        fuelEnds();
        downAheadOfWarming();
        fuelOverTwoFires();
        heatFalls();
        heatStays();
        heatComesFromEight();
        heatIsAdded();
        resists();
        allAtOnce();
        putOut();
        enginesFromMinuteThree();
        engineNearest();
        engineHelps();
        engineAims();
        engineGoes();
        engineColumnsFirst();
        enginePours();
        engineHalves();
        plugDistance();
        enginesInOrder();
        burntWhat();
        burntThen();
        burntBegan();
        cameWhat();
        cameThen();
        losses();
        lostOfAll();
        Bound.finish("FireBounds");
    }

    private static void runWhat() {
        Bound.of("20 run", "so many minutes (1 .. 120); NONE when something can't be");
        Bound.between(1, 120, n -> Bound.row(1, 3, 0).run(0, n) == 1, "minutes");
        Bound.of("20 run", "A FIRE from a HOUSE; NONE when something can't be");
        Bound.between(0, 11, n -> Bound.row(12, 3, 0).run(n, 1) == 1, "cell");
        PlateCity x = Bound.cityOf(3, 1);
        x.house(1, 0, 0, 0);
        Bound.due(-1, x.run(0, 1), "no house ahead of it");
        Bound.due(-1, x.run(2, 1), "no house behind it");
        Bound.due(1, x.run(1, 1), "a house");
    }

    private static void runCounts() {
        Bound.of("20 run", "how many HOUSES BURN or are DOWN in the end");
        PlateCity x = Bound.row(3, 0, 0);
        int[][] want = {{1, 1}, {9, 1}, {10, 2}, {14, 2}, {15, 2}, {19, 2}, {20, 3}, {34, 3}, {35, 3}, {120, 3}};
        for (int[] each : want) {
            Bound.due(each[1], x.run(0, each[0]), each[0] + " minutes");
        }
        Bound.due(2, x.burnt(2, 0), "all are down");
        PlateCity y = Bound.row(1, 0, 0);
        y.policy(0, 0, 1);
        y.engine(0, 0, 1, 9);
        y.plug(0, true);
        Bound.due(1, y.run(0, 2), "it burns");
        Bound.due(0, y.run(0, 3), "it is put out: none");
        PlateCity z = Bound.greatest(0, 0);
        z.hazard(0, 9);
        Bound.due(120, z.run(0, 120), "all of the greatest city");
    }

    private static void runRefused() {
        Bound.of("21 burnt, 22 came, 23 lost, 24 claim, 25 settled", "the latest run() that was not NONE");
        PlateCity x = Bound.row(2, 0, 1500);
        Bound.tell(x, 0, "cover all;");
        x.policy(0, 0, 99999);
        x.engine(0, 1, 1, 1);
        x.run(0, 5);
        int[][] wrong = {{0, 0}, {0, 121}, {2, 1}, {-1, 1}, {0, -1}, {Bound.LEAST, 1}, {0, Bound.MOST},
            {0, Bound.LEAST}};
        for (int[] each : wrong) {
            Bound.due(-1, x.run(each[0], each[1]), "a run that can't be");
            Bound.due(500, x.lost(), "lost");
            Bound.due(5, x.burnt(0, 3), "burnt");
            Bound.due(0, x.came(0, 0), "came");
            Bound.due(500, x.claim(2, 1), "claim");
            Bound.due(500, x.settled(0), "settled");
        }
        PlateCity y = Bound.row(1, 0, 0);
        Bound.due(-1, y.run(0, 121), "a run that can't be, without another");
        Bound.due(-1, y.lost(), "lost");
    }

    private static void beginning() {
        Bound.of("20 run, 21 burnt", "A FIRE begins in a HOUSE at minute 0: it BURNS with FIRE 1, all others are whole,"
            + " HEAT 0");
        PlateCity x = Bound.row(3, 0, 1500);
        x.run(1, 12);
        Bound.due(3, x.burnt(0, 2), "fire of the first in the fire before");
        x.run(1, 1);
        for (int cell = 0; cell < 3; cell++) {
            Bound.due(cell == 1 ? 1 : 0, x.burnt(cell, 0), "whether it burns");
            Bound.due(cell == 1 ? 0 : 2, x.burnt(cell, 1), "heat after one minute");
            Bound.due(cell == 1 ? 2 : 0, x.burnt(cell, 2), "fire after one minute");
            Bound.due(cell == 1 ? 1 : 0, x.burnt(cell, 3), "burnt minutes after one");
            Bound.due(cell == 1 ? 0 : -1, x.burnt(cell, 5), "the minute in which it began");
        }
        Bound.due(100, x.lost(), "nothing is left of the fire before");
    }

    private static void fireGrows() {
        Bound.of("21 burnt", "FIRE 1 more, 9 at most");
        PlateCity x = Bound.row(1, 3, 0);
        int[] want = {2, 3, 4, 5, 6, 7, 8, 9, 9, 9, 9};
        for (int minute = 1; minute <= want.length; minute++) {
            x.run(0, minute);
            Bound.due(want[minute - 1], x.burnt(0, 2), "fire at " + minute);
        }
        x.run(0, 59);
        Bound.due(9, x.burnt(0, 2), "fire at 59");
    }

    private static void fuelEnds() {
        Bound.of("21 burnt", "FUEL by WALL: 15, 25, 40, 60 minutes; if these are its FUEL, it is DOWN (FIRE 0, it BURNS"
            + " no more, for good)");
        for (int wall = 0; wall < 4; wall++) {
            PlateCity x = Bound.row(1, wall, 9999);
            int[] minutes = {FUEL[wall] - 1, FUEL[wall], FUEL[wall] + 1, 120};
            for (int i = 0; i < 4; i++) {
                x.run(0, minutes[i]);
                Bound.due(i == 0 ? 1 : 2, x.burnt(0, 0), "burns or down, wall " + wall);
                Bound.due(i == 0 ? 9 : 0, x.burnt(0, 2), "fire, wall " + wall);
                Bound.due(Math.min(minutes[i], FUEL[wall]), x.burnt(0, 3), "burnt minutes, wall " + wall);
                Bound.due(0, x.burnt(0, 1), "heat, wall " + wall);
            }
        }
    }

    private static void downAheadOfWarming() {
        Bound.of("21 burnt", "one that is DOWN warms none, from that minute on");
        PlateCity x = Bound.row(2, 0, 0);
        x.house(1, 3, 0, 0);
        int heat = 0;
        for (int minute = 1; minute <= 18; minute++) {
            int warmth = minute < 15 ? Math.min(9, minute + 1) : 0;
            heat = Math.max(0, heat - 2) + warmth;
            x.run(0, minute);
            Bound.due(heat, x.burnt(1, 1), "heat at " + minute);
        }
        Bound.of("21 burnt", "(HEAT stays) of one that is DOWN");
        PlateCity y = Bound.row(2, 0, 0);
        y.house(1, 3, 0, 0);
        y.house(0, 0, 0, 0);
        y.wind(1, 6, 20);
        y.run(1, 2);
        Bound.due(43, y.burnt(0, 1), "the heat with which it began");
        for (int minute : new int[] {3, 16, 17, 18, 60}) {
            y.run(1, minute);
            Bound.due(43, y.burnt(0, 1), "heat at " + minute);
            Bound.due(minute < 17 ? 1 : 2, y.burnt(0, 0), "burns or down at " + minute);
        }
    }

    /** The first is put out in minute 3 by four engines, which then stay with the second one, too far from a plug. */
    private static PlateCity twoFires() {
        PlateCity x = Bound.cityOf(12, 1);
        x.house(3, 0, 0, 1500);
        x.house(4, 1, 0, 0);
        x.hazard(0, 9);
        x.wind(1, 2, 20);
        x.plug(0, true);
        x.policy(3, 0, 1);
        x.policy(4, 0, 1);
        for (int i = 0; i < 4; i++) {
            x.engine(0, 3, 1, 1);
        }
        return x;
    }

    private static void fuelOverTwoFires() {
        Bound.of("21 burnt", "it BURNS no more, its HEAT is 0, FIRE 0 (it may BURN again)");
        PlateCity x = twoFires();
        x.run(3, 3);
        Bound.due(0, x.burnt(3, 0), "put out");
        Bound.due(3, x.burnt(3, 3), "burnt minutes");
        int[] heats = {0, 12, 23, 35, 48, 48};
        for (int minute = 3; minute <= 8; minute++) {
            x.run(3, minute);
            Bound.due(heats[minute - 3], x.burnt(3, 1), "heat at " + minute);
            Bound.due(minute < 7 ? 0 : 1, x.burnt(3, 0), "whether it burns at " + minute);
            Bound.due(Math.max(0, minute - 6), x.burnt(3, 2), "fire at " + minute);
            Bound.due(Math.max(3, minute - 4), x.burnt(3, 3), "burnt minutes at " + minute);
            Bound.due(0, x.burnt(3, 5), "the minute in which it began to burn first");
            Bound.due(minute < 4 ? 3 : 4, x.came(3, 1), "the last engine's aim at " + minute);
        }
        Bound.of("21 burnt", "its burnt minutes 1 more; if these are its FUEL, it is DOWN (those of two fires"
            + " together)");
        x.run(3, 18);
        Bound.due(1, x.burnt(3, 0), "burns still");
        Bound.due(14, x.burnt(3, 3), "burnt minutes");
        Bound.due(1400, x.burnt(3, 4), "loss");
        for (int minute : new int[] {19, 20, 120}) {
            x.run(3, minute);
            Bound.due(2, x.burnt(3, 0), "is down");
            Bound.due(15, x.burnt(3, 3), "burnt minutes");
            Bound.due(1500, x.burnt(3, 4), "all is lost");
        }
    }

    private static void heatFalls() {
        Bound.of("21 burnt", "HEAT 2 less, 0 at least");
        PlateCity x = Bound.row(2, 0, 0);
        x.policy(0, 0, 1);
        x.engine(0, 0, 1, 9);
        x.plug(0, true);
        int[] heats = {2, 3, 5, 3, 1, 0, 0};
        for (int minute = 1; minute <= heats.length; minute++) {
            x.run(0, minute);
            Bound.due(heats[minute - 1], x.burnt(1, 1), "heat at " + minute);
        }
    }

    private static void heatStays() {
        Bound.of("21 burnt", "each HOUSE that does not BURN: one that BURNS keeps its HEAT");
        PlateCity x = Bound.row(2, 0, 0);
        x.wind(1, 2, 20);
        for (int minute = 2; minute <= 12; minute++) {
            x.run(0, minute);
            Bound.due(43, x.burnt(1, 1), "heat of the second at " + minute);
            Bound.due(0, x.burnt(0, 1), "heat of the first at " + minute);
        }
    }

    private static void heatComesFromEight() {
        Bound.of("21 burnt", "of each HOUSE that BURNS, in the eight CELLS around it");
        PlateCity x = Bound.cityOf(5, 5);
        for (int cell = 0; cell < 25; cell++) {
            x.house(cell, 3, 0, 0);
        }
        x.run(12, 1);
        for (int cell = 0; cell < 25; cell++) {
            boolean around = cell != 12 && Math.abs(cell / 5 - 2) <= 1 && Math.abs(cell % 5 - 2) <= 1;
            Bound.due(around ? 2 : 0, x.burnt(cell, 1), "heat of " + cell);
        }
        PlateCity y = Bound.greatest(3, 0);
        for (int corner : new int[] {0, 11, 108, 119}) {
            y.run(corner, 1);
            int warm = 0;
            for (int cell = 0; cell < 24; cell++) {
                int other = corner < 12 ? cell : 119 - cell;
                warm += y.burnt(other, 1);
            }
            Bound.due(6, warm, "the heat around corner " + corner);
        }
    }

    private static void heatIsAdded() {
        Bound.of("21 burnt", "FIRE and HAZARD of that one's TRADE, and how strong the WIND of t is; all added");
        PlateCity x = Bound.cityOf(3, 1);
        x.house(0, 0, 5, 0);
        x.house(1, 0, 4, 0);
        x.hazard(5, 9);
        x.hazard(4, 1);
        x.wind(1, 2, 20);
        x.run(0, 2);
        Bound.due(2 + 9 + 20 - 2 + 3 + 9 + 20, x.burnt(1, 1), "the greatest of one");
        PlateCity y = Bound.cityOf(2, 2);
        y.house(0, 3, 0, 0);
        y.house(1, 0, 1, 0);
        y.house(3, 3, 2, 0);
        y.hazard(1, 5);
        y.hazard(2, 9);
        y.wind(1, 2, 20);
        y.run(0, 3);
        Bound.due(2 - 2 + 3 - 2 + 4 + 2 + 5, y.burnt(3, 1), "of two that burn");
        y.wind(3, 4, 11);
        y.run(0, 3);
        Bound.due(12 + 11, y.burnt(3, 1), "of two, the wind from the one above");
        y.wind(3, 3, 6);
        y.run(0, 3);
        Bound.due(12 + 6, y.burnt(3, 1), "of two, the wind from the one above and to the left");
    }

    private static void resists() {
        Bound.of("21 burnt", "RESIST by WALL: 40, 60, 100, 160; those whose HEAT is then RESIST or above BURN with"
            + " FIRE 1");
        int[] minutes = {2, 3, 5, 7};
        for (int wall = 0; wall < 4; wall++) {
            for (int off = -1; off <= 1; off++) {
                PlateCity x = Bound.row(2, 3, 0);
                x.house(1, wall, 0, 0);
                x.wind(1, 2, 20);
                int heat = 0;
                for (int minute = 1; minute < minutes[wall]; minute++) {
                    heat += minute + 21 - (minute > 1 ? 2 : 0);
                }
                int last = RESIST[wall] + off - (heat - 2 + minutes[wall] + 1);
                Bound.yes(x.wind(minutes[wall], 2, last), "a wind of " + last);
                x.run(0, minutes[wall]);
                Bound.due(RESIST[wall] + off, x.burnt(1, 1), "heat, wall " + wall);
                Bound.due(off < 0 ? 0 : 1, x.burnt(1, 0), "whether it burns, wall " + wall);
                Bound.due(off < 0 ? 0 : 1, x.burnt(1, 2), "fire, wall " + wall);
                Bound.due(off < 0 ? -1 : minutes[wall], x.burnt(1, 5), "when it began, wall " + wall);
                Bound.due(0, x.burnt(1, 3), "burnt minutes, wall " + wall);
            }
        }
    }

    private static void allAtOnce() {
        Bound.of("21 burnt", "(all at once, by those that burnt ahead of this)");
        PlateCity x = Bound.row(4, 0, 0);
        x.wind(1, 2, 20);
        x.run(0, 2);
        Bound.due(1, x.burnt(1, 0), "the second burns");
        Bound.due(0, x.burnt(2, 1), "the third has no heat of it yet");
        x.run(0, 3);
        Bound.due(22, x.burnt(2, 1), "the third has");
        x.wind(1, 6, 20);
        x.run(3, 2);
        Bound.due(1, x.burnt(2, 0), "the one ahead burns");
        Bound.due(0, x.burnt(1, 1), "the one ahead of that has no heat of it yet");
        x.run(3, 3);
        Bound.due(22, x.burnt(1, 1), "it has");
    }

    private static PlateCity quenched(int pours) {
        PlateCity x = Bound.row(2, 0, 0);
        x.policy(0, 0, 1);
        x.plug(0, true);
        x.engine(0, 0, 1, pours);
        return x;
    }

    private static void putOut() {
        Bound.of("21 burnt, 22 came", "at 0 or below it BURNS no more, its HEAT is 0, FIRE 0");
        int[] fires = {3, 2, 1, 0, 0, 0, 0, 0, 0};
        for (int pours = 1; pours <= 9; pours++) {
            PlateCity x = quenched(pours);
            Bound.due(pours < 4 ? 1 : 0, x.run(0, 3), "houses that burn after pouring " + pours);
            Bound.due(fires[pours - 1], x.burnt(0, 2), "fire 4 less " + pours);
            Bound.due(pours < 4 ? 1 : 0, x.burnt(0, 0), "whether it burns");
            Bound.due(0, x.burnt(0, 1), "heat");
            Bound.due(3, x.came(0, 2), "the minute in which it poured first");
        }
        PlateCity y = Bound.row(2, 0, 0);
        y.wind(1, 2, 20);
        y.policy(1, 0, 1);
        y.plug(1, true);
        y.engine(0, 1, 1, 9);
        y.run(0, 2);
        Bound.due(43, y.burnt(1, 1), "the heat with which it began");
        y.run(0, 3);
        Bound.due(0, y.burnt(1, 0), "put out");
        Bound.due(0, y.burnt(1, 1), "its heat is 0");
        Bound.due(1, y.burnt(1, 3), "burnt minutes stay");
        Bound.due(2, y.burnt(1, 5), "when it began stays");
        y.run(0, 4);
        Bound.due(25, y.burnt(1, 1), "warmed from 0 on again");
    }

    private static void enginesFromMinuteThree() {
        Bound.of("22 came", "from minute 3 on (ahead of that ENGINES are at home, without an aim)");
        PlateCity x = Bound.row(3, 3, 0);
        x.policy(0, 0, 1);
        x.engine(0, 2, 1, 1);
        x.engine(0, 0, 1, 1);
        int[] cells = {2, 2, 1, 0, 0};
        int[] aims = {-1, -1, 0, 0, 0};
        int[] poured = {-1, -1, -1, 4, 4};
        for (int minute = 1; minute <= 5; minute++) {
            x.run(0, minute);
            Bound.due(cells[minute - 1], x.came(0, 0), "cell at " + minute);
            Bound.due(aims[minute - 1], x.came(0, 1), "aim at " + minute);
            Bound.due(poured[minute - 1], x.came(0, 2), "poured at " + minute);
            Bound.due(minute < 3 ? -1 : 3, x.came(1, 2), "the one that is there poured at " + minute);
        }
        x.run(0, 2);
        Bound.due(2, x.came(0, 0), "at home again in another fire");
        Bound.due(-1, x.came(0, 1), "without an aim again");
        Bound.due(-1, x.came(0, 2), "it has not poured");
    }

    /** Houses in a ring around the middle one, all lit by it at once in minute 2. */
    private static PlateCity ring() {
        PlateCity x = Bound.cityOf(5, 5);
        x.hazard(0, 9);
        x.house(12, 3, 0, 0);
        return x;
    }

    private static void engineNearest() {
        Bound.of("22 came", "the nearest (rows and columns between added)");
        PlateCity x = Bound.cityOf(5, 2);
        x.house(0, 3, 0, 0);
        x.house(1, 0, 1, 0);
        x.wind(1, 2, 20);
        Bound.tell(x, 0, "help all;");
        for (int cell = 0; cell < 10; cell++) {
            x.engine(0, cell, 1, 1);
        }
        x.run(0, 3);
        int[] aims = {0, 1, 1, 1, 1, 0, 1, 1, 1, 1};
        for (int engine = 0; engine < 10; engine++) {
            Bound.due(aims[engine], x.came(engine, 1), "aim from " + engine);
        }
        // Lit by 18 at once: three columns off, and two rows and two columns off.
        PlateCity odd = Bound.cityOf(5, 5);
        odd.house(18, 3, 0, 0);
        odd.house(23, 0, 0, 0);
        odd.house(12, 0, 0, 0);
        odd.hazard(0, 9);
        Bound.tell(odd, 0, "help wall=0;");
        odd.engine(0, 20, 1, 1);
        Bound.due(1, odd.run(18, 3), "none of them burns at 3");
        Bound.due(-1, odd.came(0, 1), "no aim at 3");
        Bound.due(3, odd.run(18, 4), "both burn at 4");
        Bound.due(23, odd.came(0, 1), "three and none are fewer than two and two");
        PlateCity far = Bound.greatest(3, 0);
        Bound.tell(far, 0, "help all;");
        far.engine(0, 0, 9, 1);
        far.run(119, 3);
        Bound.due(119, far.came(0, 1), "the last cell of the greatest city");
        Bound.due(9, far.came(0, 0), "nine columns");
        far.run(119, 4);
        Bound.due(7 * 12 + 11, far.came(0, 0), "two columns and seven rows");
        far.run(119, 5);
        Bound.due(119, far.came(0, 0), "the last two rows");
        Bound.of("22 came", "of like ones the least CELL");
        int[][] pairs = {{11, 13}, {7, 17}, {6, 18}, {8, 16}, {7, 11}, {13, 17}};
        for (int[] pair : pairs) {
            PlateCity y = ring();
            y.house(pair[0], 0, 0, 0);
            y.house(pair[1], 0, 0, 0);
            Bound.tell(y, 3, "help wall=0;");
            y.engine(3, 12, 1, 1);
            int both = 0;
            for (int minute = 3; both == 0 && minute < 10; minute++) {
                y.run(12, minute);
                both = y.burnt(pair[0], 0) == 1 && y.burnt(pair[1], 0) == 1 ? minute : 0;
            }
            Bound.due(pair[0], y.came(0, 1), "aim of " + pair[0] + " and " + pair[1]);
        }
    }

    private static void engineHelps() {
        Bound.of("22 came", "a HOUSE that BURNS and that its OFFICE HELPS; none if there is none");
        PlateCity x = Bound.row(2, 3, 0);
        x.policy(1, 4, 1);
        for (int office = 0; office < 9; office++) {
            x.engine(office, 1, 1, 1);
        }
        x.run(0, 12);
        for (int office = 0; office < 9; office++) {
            Bound.due(-1, x.came(office, 1), "the house with a policy does not burn");
            Bound.due(1, x.came(office, 0), "it stays");
        }
        Bound.tell(x, 8, "help wall=3;");
        x.policy(0, 0, 1);
        x.run(0, 12);
        int[] aims = {0, -1, -1, -1, -1, -1, -1, -1, 0};
        for (int office = 0; office < 9; office++) {
            Bound.due(aims[office], x.came(office, 1), "aim of an engine of " + office);
        }
        x.as(1);
        x.run(0, 12);
        Bound.due(-1, x.came(0, 1), "as known: no policy there");
        Bound.due(-1, x.came(8, 1), "as known: no terms");
    }

    private static void engineAims() {
        Bound.of("22 came", "if it has no aim, or its aim BURNS no more");
        PlateCity x = Bound.row(4, 0, 0);
        x.wind(1, 2, 20);
        Bound.tell(x, 0, "help all;");
        x.plug(1, true);
        x.engine(0, 3, 1, 9);
        x.engine(1, 0, 1, 1);
        x.run(0, 3);
        Bound.due(1, x.came(0, 1), "the nearest that burns");
        Bound.due(2, x.came(0, 0), "one cell nearer");
        Bound.due(-1, x.came(1, 1), "an office without help has none");
        x.run(0, 4);
        Bound.due(1, x.came(0, 1), "the aim stays, though a nearer one burns now");
        Bound.due(1, x.came(0, 0), "there");
        Bound.due(4, x.came(0, 2), "poured");
        Bound.due(0, x.burnt(1, 0), "put out");
        Bound.due(1, x.burnt(2, 0), "the nearer one burns");
        x.run(0, 5);
        Bound.due(0, x.came(0, 1), "a new aim: of like ones the least cell");
        PlateCity y = quenched(9);
        y.run(0, 3);
        Bound.due(0, y.came(0, 1), "the aim that it has just put out");
        y.run(0, 4);
        Bound.due(-1, y.came(0, 1), "none burns now");
        Bound.due(0, y.came(0, 0), "it stays");
        PlateCity z = Bound.row(1, 0, 0);
        z.policy(0, 0, 1);
        z.engine(0, 0, 1, 1);
        z.run(0, 14);
        Bound.due(0, z.came(0, 1), "it burns");
        z.run(0, 15);
        Bound.due(-1, z.came(0, 1), "it is down");
    }

    private static void engineGoes() {
        Bound.of("22 came", "it goes as many CELLS as it can (or until it is there)");
        for (int goes = 1; goes <= 9; goes++) {
            PlateCity x = Bound.cityOf(12, 1);
            x.house(0, 3, 0, 0);
            x.policy(0, 0, 1);
            x.engine(0, 11, goes, 1);
            int minutes = (11 + goes - 1) / goes;
            for (int n = 0; n <= minutes; n++) {
                x.run(0, 2 + n);
                Bound.due(Math.max(0, 11 - n * goes), x.came(0, 0), "cell after " + n + " minutes by " + goes);
                Bound.due(n < minutes ? -1 : 2 + minutes, x.came(0, 2), "poured first");
            }
        }
    }

    private static void engineColumnsFirst() {
        Bound.of("22 came", "columns first, then rows");
        int[][] ways = {{0, 24}, {4, 20}, {20, 4}, {24, 0}};
        for (int[] way : ways) {
            PlateCity x = Bound.cityOf(5, 5);
            x.house(way[1], 3, 0, 0);
            x.policy(way[1], 0, 1);
            x.engine(0, way[0], 3, 1);
            int side = way[1] % 5 > way[0] % 5 ? 1 : -1;
            int down = way[1] > way[0] ? 5 : -5;
            x.run(way[1], 3);
            Bound.due(way[0] + 3 * side, x.came(0, 0), "three columns");
            x.run(way[1], 4);
            Bound.due(way[0] + 4 * side + 2 * down, x.came(0, 0), "the last column and two rows");
            x.run(way[1], 5);
            Bound.due(way[1], x.came(0, 0), "there");
            Bound.due(5, x.came(0, 2), "poured");
        }
    }

    private static void enginePours() {
        Bound.of("22 came", "if it is there now: it pours in that minute");
        PlateCity x = Bound.row(12, 3, 0);
        x.policy(0, 0, 1);
        x.plug(0, true);
        x.engine(0, 9, 9, 1);
        x.engine(0, 10, 9, 1);
        x.run(0, 3);
        Bound.due(0, x.came(0, 0), "nine cells in one minute");
        Bound.due(3, x.came(0, 2), "poured");
        Bound.due(1, x.came(1, 0), "ten cells in two");
        Bound.due(-1, x.came(1, 2), "not there");
        Bound.due(3, x.burnt(0, 2), "fire");
        x.run(0, 4);
        Bound.due(4, x.came(1, 2), "poured");
        Bound.due(2, x.burnt(0, 2), "fire");
        Bound.due(3, x.came(0, 2), "the minute in which it poured first");
    }

    private static void engineHalves() {
        Bound.of("21 burnt, 22 came", "(by half, floor, if no PLUG is 3 rows and columns or fewer off)");
        int[] halves = {0, 1, 1, 2, 2, 3, 3, 4, 4};
        for (int pours = 1; pours <= 9; pours++) {
            PlateCity x = Bound.row(1, 3, 0);
            x.policy(0, 0, 1);
            x.engine(0, 0, 1, pours);
            x.run(0, 3);
            Bound.due(4 - halves[pours - 1], x.burnt(0, 2), "fire 4 less half of " + pours);
            Bound.due(3, x.came(0, 2), "poured first");
            Bound.due(pours < 8 ? 1 : 0, x.burnt(0, 0), "whether it burns");
        }
    }

    private static void plugDistance() {
        Bound.of("6 plug, 22 came", "3 rows and columns or fewer off, these added");
        PlateCity x = Bound.cityOf(9, 9);
        x.house(40, 3, 0, 0);
        x.policy(40, 0, 1);
        x.engine(0, 40, 1, 3);
        for (int cell = 0; cell < 81; cell++) {
            int off = Math.abs(cell / 9 - 4) + Math.abs(cell % 9 - 4);
            x.plug(cell, true);
            x.run(40, 3);
            Bound.due(off <= 3 ? 1 : 3, x.burnt(40, 2), "fire with a plug in " + cell);
            x.plug(cell, false);
        }
        PlateCity y = Bound.cityOf(9, 2);
        y.house(9, 3, 0, 0);
        y.policy(9, 0, 1);
        y.engine(0, 9, 1, 3);
        y.plug(8, true);
        y.run(9, 3);
        Bound.due(3, y.burnt(9, 2), "a plug at the end of the row before");
        y.plug(7, true);
        y.plug(17, true);
        y.plug(2, true);
        y.run(9, 3);
        Bound.due(1, y.burnt(9, 2), "one of them is near enough");
    }

    private static void enginesInOrder() {
        Bound.of("22 came", "ENGINE by ENGINE");
        PlateCity x = Bound.row(1, 3, 0);
        x.policy(0, 0, 1);
        x.plug(0, true);
        for (int i = 0; i < 12; i++) {
            x.engine(0, 0, 1, 1);
        }
        x.run(0, 3);
        for (int i = 0; i < 12; i++) {
            Bound.due(i < 4 ? 3 : -1, x.came(i, 2), "fire 4 takes four of 1: engine " + i);
            Bound.due(i < 4 ? 0 : -1, x.came(i, 1), "the others have no aim: engine " + i);
        }
        PlateCity y = Bound.row(2, 3, 0);
        y.house(1, 0, 0, 0);
        y.wind(1, 2, 20);
        y.policy(0, 0, 1);
        y.policy(1, 0, 1);
        y.plug(0, true);
        y.engine(0, 0, 1, 9);
        y.engine(0, 0, 1, 9);
        Bound.due(0, y.run(0, 3), "both are put out in one minute");
        Bound.due(0, y.came(0, 1), "the first one's aim");
        Bound.due(1, y.came(1, 1), "the second one's: the other burns no more by then");
        Bound.due(1, y.came(1, 0), "it went there");
    }

    private static void burntWhat() {
        Bound.of("21 burnt", "NONE when there is none such (a HOUSE then), or for others");
        PlateCity x = Bound.cityOf(3, 1);
        x.house(1, 0, 0, 1500);
        x.run(1, 5);
        int[] want = {1, 0, 6, 5, 500, 0};
        for (int what = 0; what < 6; what++) {
            Bound.due(want[what], x.burnt(1, what), "what " + what);
        }
        for (int what : new int[] {-1, 6, Bound.LEAST, Bound.MOST}) {
            Bound.due(-1, x.burnt(1, what), "what " + what);
        }
        for (int cell : new int[] {-1, 0, 2, 3, 119, 120, Bound.LEAST, Bound.MOST}) {
            for (int what = 0; what < 6; what++) {
                Bound.due(-1, x.burnt(cell, what), "no house: cell " + cell);
            }
        }
        Bound.between(0, 119, n -> warmCity().burnt(n, 0) != -1, "cell");
    }

    private static PlateCity warmCity() {
        PlateCity x = Bound.greatest(3, 0);
        x.run(0, 1);
        return x;
    }

    private static void burntThen() {
        Bound.of("21 burnt", "Of a HOUSE in the latest run() (a HOUSE then)");
        PlateCity x = Bound.row(2, 0, 1500);
        x.city(3, 1);
        x.house(0, 0, 0, 1500);
        x.run(0, 15);
        x.house(1, 0, 0, 9);
        x.house(0, 3, 5, 9999);
        Bound.due(-1, x.burnt(1, 0), "no house then");
        Bound.due(2, x.burnt(0, 0), "down, with the wall of then");
        Bound.due(1500, x.burnt(0, 4), "the loss, with the worth of then");
        Bound.due(1500, x.lost(), "lost");
        x.run(1, 1);
        Bound.due(0, x.burnt(1, 5), "a house in this one");
        Bound.due(0, x.burnt(0, 0), "whole in this one");
        Bound.due(0, x.burnt(0, 4), "no loss in this one");
    }

    private static void burntBegan() {
        Bound.of("21 burnt", "the minute in which it began to BURN first (0 the first one; NONE if it never did)");
        PlateCity x = Bound.row(3, 0, 0);
        x.run(1, 9);
        int[] before = {-1, 0, -1};
        int[] behind = {10, 0, 10};
        for (int cell = 0; cell < 3; cell++) {
            Bound.due(before[cell], x.burnt(cell, 5), "at 9, cell " + cell);
        }
        for (int minutes : new int[] {10, 11, 120}) {
            x.run(1, minutes);
            for (int cell = 0; cell < 3; cell++) {
                Bound.due(behind[cell], x.burnt(cell, 5), "at " + minutes + ", cell " + cell);
            }
        }
    }

    private static void cameWhat() {
        Bound.of("22 came", "NONE when there is none such (an ENGINE then), or for others");
        PlateCity x = Bound.row(2, 3, 0);
        x.policy(0, 0, 1);
        x.run(0, 3);
        Bound.due(-1, x.came(0, 0), "no engines");
        for (int i = 0; i < 12; i++) {
            x.engine(0, 1, 1, 1);
        }
        x.run(0, 4);
        for (int engine = 0; engine < 12; engine++) {
            Bound.due(0, x.came(engine, 0), "the cell");
            Bound.due(0, x.came(engine, 1), "the aim");
            Bound.due(3, x.came(engine, 2), "poured first");
        }
        for (int engine : new int[] {-1, 12, Bound.LEAST, Bound.MOST}) {
            for (int what = 0; what < 3; what++) {
                Bound.due(-1, x.came(engine, what), "no engine " + engine);
            }
        }
        for (int what : new int[] {-1, 3, Bound.LEAST, Bound.MOST}) {
            Bound.due(-1, x.came(0, what), "what " + what);
            Bound.due(-1, x.came(11, what), "what " + what);
        }
    }

    private static void cameThen() {
        Bound.of("22 came", "Of an ENGINE in it (an ENGINE then)");
        PlateCity x = Bound.row(2, 3, 0);
        x.engine(0, 1, 1, 1);
        x.run(0, 3);
        x.engine(0, 0, 1, 1);
        Bound.due(1, x.came(0, 0), "an engine then");
        Bound.due(-1, x.came(1, 0), "no engine then");
        x.policy(0, 0, 1);
        Bound.due(-1, x.came(0, 1), "no aim then");
        x.run(0, 3);
        Bound.due(0, x.came(1, 0), "an engine in this one");
        Bound.due(0, x.came(0, 1), "an aim in this one");
    }

    private static void losses() {
        Bound.of("21 burnt", "LOSS of a HOUSE: floor(WORTH times burnt minutes / FUEL)");
        for (int wall = 0; wall < 4; wall++) {
            for (int worth : new int[] {0, 1, FUEL[wall] - 1, FUEL[wall], FUEL[wall] + 1, 9998, 9999}) {
                PlateCity x = Bound.row(1, wall, worth);
                for (int minutes : new int[] {1, 2, FUEL[wall] / 2, FUEL[wall] - 1, FUEL[wall], 120}) {
                    int burnt = Math.min(minutes, FUEL[wall]);
                    x.run(0, minutes);
                    Bound.due(worth * burnt / FUEL[wall], x.burnt(0, 4), worth + " by " + minutes + ", wall " + wall);
                }
            }
        }
    }

    private static void lostOfAll() {
        Bound.of("23 lost", "The LOSS of all HOUSES in it: floors added");
        PlateCity x = Bound.row(2, 0, 1);
        x.wind(1, 2, 20);
        for (int minutes : new int[] {1, 14, 15, 16, 17, 120}) {
            x.run(0, minutes);
            int want = minutes < 15 ? 0 : minutes < 17 ? 1 : 2;
            Bound.due(want, x.lost(), "lost after " + minutes);
        }
        PlateCity y = Bound.greatest(0, 9999);
        y.hazard(0, 9);
        y.run(0, 120);
        Bound.due(120 * 9999, y.lost(), "all of the greatest city");
    }
}
