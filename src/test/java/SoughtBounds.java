import java.util.Arrays;

/** The boundary cases of what is sought: promises 28 to 31, and WORST and PLAN in section V of the document's terms. */
public final class SoughtBounds {
    private SoughtBounds() { }

    public static void main(String[] args) {
        worstWhat();
        worstAboveNothing();
        worstOfLikeOnes();
        worstOfHouses();
        worstIsSettled();
        worstAsKnown();
        worstMinutes();
        worstLeavesTheRun();
        placeWhat();
        placeAtMost();
        placeOnce();
        planWhat();
        planK();
        planEngines();
        planLoss();
        planOfLikeOnes();
        planOrder();
        planOfEight();
        planAsKnown();
        planLeavesAll();
        plannedWhat();
        plannedOfTheLatest();
        Bound.finish("SoughtBounds");
    }

    /** A row of houses of wood, 100 for each minute, all covered by office 5. */
    private static PlateCity covered(int houses) {
        PlateCity x = Bound.row(houses, 0, 1500);
        Bound.tell(x, 5, "cover all;");
        for (int cell = 0; cell < houses; cell++) {
            x.policy(cell, 5, 99999);
        }
        return x;
    }

    private static void worstWhat() {
        Bound.of("28 worst", "NONE when something can't be: the OFFICE");
        PlateCity x = Bound.row(1, 0, 1500);
        for (int office = 0; office < 9; office++) {
            Bound.tell(x, office, "cover all;");
            x.policy(0, office, 10);
        }
        Bound.between(0, 8, n -> x.worst(n, 5) == 0, "office");
        Bound.of("28 worst", "in some minutes (1 .. 60); NONE when something can't be");
        Bound.between(1, 60, n -> x.worst(0, n) == 0, "minutes");
        Bound.due(-1, x.worst(9, 61), "both");
    }

    private static void worstAboveNothing() {
        Bound.of("28 worst", "(if that is above 0); NONE when there is none");
        Bound.due(-1, new PlateCity().worst(0, 1), "no house");
        Bound.due(-1, Bound.row(2, 0, 1500).worst(0, 10), "no policy");
        PlateCity x = Bound.row(2, 0, 1500);
        x.policy(0, 0, 10);
        Bound.due(-1, x.worst(0, 10), "no terms");
        Bound.tell(x, 0, "cover not all;");
        Bound.due(-1, x.worst(0, 10), "nothing is asked");
        Bound.tell(x, 0, "cover all;");
        Bound.due(0, x.worst(0, 10), "10 are settled");
        Bound.due(-1, x.worst(1, 10), "nothing of another office");
        for (int worth = 14; worth <= 15; worth++) {
            x.house(0, 0, 0, worth);
            Bound.due(worth == 14 ? -1 : 0, x.worst(0, 1), "settled of a loss of " + worth + " / 15");
        }
        x.house(0, 0, 0, 0);
        Bound.due(-1, x.worst(0, 60), "no worth");
    }

    private static void worstOfLikeOnes() {
        Bound.of("28 worst", "the least CELL of like ones");
        Bound.due(0, covered(5).worst(5, 1), "all alike");
        PlateCity x = Bound.cityOf(6, 1);
        x.house(2, 0, 0, 1500);
        x.house(5, 0, 0, 1500);
        Bound.tell(x, 5, "cover all;");
        x.policy(5, 5, 300);
        Bound.due(5, x.worst(5, 9), "the one with a policy");
        x.policy(2, 5, 300);
        Bound.due(2, x.worst(5, 9), "the least of two");
        x.policy(5, 5, 1);
        Bound.due(5, x.worst(5, 9), "one more at the last");
        x.policy(2, 5, 1);
        Bound.due(2, x.worst(5, 9), "alike again");
        Bound.due(2, x.worst(5, 3), "alike by the loss");
        PlateCity y = covered(12);
        Bound.due(0, y.worst(5, 10), "none beside it has burnt for a minute yet");
        Bound.due(1, y.worst(5, 11), "the first that has two beside it");
    }

    private static void worstOfHouses() {
        Bound.of("28 worst", "its HOUSE's CELL: a FIRE begins in a HOUSE alone");
        PlateCity x = Bound.cityOf(3, 1);
        x.house(0, 0, 0, 1500);
        x.house(2, 0, 0, 1600);
        Bound.tell(x, 5, "cover all;");
        x.policy(0, 5, 99999);
        x.policy(2, 5, 99999);
        Bound.due(2, x.worst(5, 60), "not the empty cell between two");
        PlateCity y = Bound.greatest(0, 0);
        y.house(119, 0, 0, 9999);
        Bound.tell(y, 5, "cover all;");
        y.policy(119, 5, 99999);
        Bound.due(119, y.worst(5, 5), "the last cell of the greatest city");
    }

    private static void worstIsSettled() {
        Bound.of("28 worst", "so that what is SETTLED for it is greatest (not what is lost or asked)");
        PlateCity x = Bound.cityOf(5, 1);
        x.house(0, 0, 0, 9000);
        x.house(2, 0, 0, 1500);
        x.house(4, 0, 0, 3000);
        Bound.tell(x, 0, "cover all;pay sum;beside after;");
        Bound.tell(x, 1, "cover all;pay sum;beside first;");
        x.policy(2, 0, 400);
        x.policy(4, 0, 99999);
        x.policy(4, 1, 700);
        Bound.due(2, x.worst(0, 5), "400 of 400, 300 of 99999");
        Bound.due(4, x.worst(1, 5), "the other office's");
        x.policy(0, 0, 401);
        Bound.due(0, x.worst(0, 5), "401");
        Bound.due(4, x.worst(1, 1), "200 of 700");
    }

    private static void worstAsKnown() {
        Bound.of("28 worst", "as known");
        PlateCity x = Bound.cityOf(3, 1);
        x.house(0, 0, 0, 1500);
        x.house(2, 0, 0, 3000);
        x.policy(0, 0, 99999);
        Bound.tell(x, 0, "cover all;");
        x.policy(2, 0, 99999);
        x.annul(3);
        int[] want = {-1, -1, 0, 2, 0};
        for (int act = 0; act <= 4; act++) {
            x.as(act);
            Bound.due(want[act], x.worst(0, 5), "worst as known at " + act);
        }
        x.as(-1);
        Bound.due(0, x.worst(0, 5), "worst as known at the last one");
    }

    private static void worstMinutes() {
        Bound.of("28 worst", "in some minutes: of just so many");
        PlateCity x = Bound.cityOf(4, 1);
        x.house(0, 0, 0, 1500);
        x.house(2, 3, 0, 9000);
        x.policy(0, 0, 99999);
        x.policy(2, 0, 99999);
        // The first loses 100 a minute up to 1500, the second 150 a minute, but for its void while it is cheap.
        Bound.tell(x, 0, "cover all;void loss < 1500 and wall = 3;");
        int[] minutes = {1, 9, 10, 11, 14, 15, 60};
        int[] want = {0, 0, 2, 2, 2, 2, 2};
        for (int i = 0; i < minutes.length; i++) {
            Bound.due(want[i], x.worst(0, minutes[i]), "worst in " + minutes[i]);
        }
        PlateCity y = Bound.row(1, 3, 59);
        Bound.tell(y, 0, "cover loss = 59;pay 1;");
        y.policy(0, 0, 1);
        Bound.due(-1, y.worst(0, 59), "59 minutes of 60");
        Bound.due(0, y.worst(0, 60), "60 minutes");
    }

    private static void worstLeavesTheRun() {
        Bound.of("28 worst", "(The latest run() stays.)");
        PlateCity x = covered(3);
        x.engine(5, 2, 1, 1);
        Bound.due(0, x.worst(5, 60) >= 0 ? 0 : 1, "worst without a run");
        Bound.due(-1, x.lost(), "lost without a run");
        Bound.due(-1, x.came(0, 0), "came without a run");
        x.run(0, 4);
        x.worst(5, 60);
        x.worst(5, 0);
        x.worst(9, 1);
        Bound.due(400, x.lost(), "lost");
        Bound.due(5, x.burnt(0, 2), "fire");
        Bound.due(4, x.burnt(0, 3), "burnt minutes");
        Bound.due(0, x.came(0, 0), "the engine's cell");
        Bound.due(4, x.came(0, 2), "poured first");
        Bound.due(400, x.claim(2, 1), "settled for a policy");
        Bound.due(400, x.settled(5), "settled");
        Bound.due(400, x.fall(5, 0), "owed");
        Bound.due(2, x.rounds(), "rounds");
    }

    private static void placeWhat() {
        Bound.of("29 place", "NONE when there is none such");
        Bound.between(0, 119, n -> Bound.cityOf(12, 10).place(n) == 1, "cell");
        PlateCity x = Bound.cityOf(2, 1);
        Bound.due(-1, x.place(2), "no cell");
        Bound.due(-1, x.place(-1), "no cell");
        Bound.due(0, x.all(5), "told");
        Bound.due(1, x.place(1), "a cell without a house");
        Bound.due(2, x.place(0), "the other one");
        Bound.due(2, x.all(5), "told");
    }

    private static void placeAtMost() {
        Bound.of("29 place", "how many there are; NONE when there are 8");
        PlateCity x = Bound.cityOf(12, 1);
        for (int i = 1; i <= 8; i++) {
            Bound.due(i, x.place(12 - i), "place");
            Bound.due(i, x.all(5), "told");
        }
        Bound.due(-1, x.place(0), "the ninth");
        Bound.due(-1, x.place(3), "the ninth");
        Bound.due(-1, x.place(11), "told already, and there are 8");
        Bound.due(8, x.all(5), "told");
    }

    private static void placeOnce() {
        Bound.of("29 place", "NONE when it is told already");
        PlateCity x = Bound.cityOf(3, 1);
        Bound.due(1, x.place(0), "the first");
        Bound.due(-1, x.place(0), "again");
        Bound.due(2, x.place(2), "the second");
        Bound.due(-1, x.place(2), "again");
        Bound.due(-1, x.place(0), "the first again");
        Bound.due(2, x.all(5), "told");
        Bound.due(3, x.place(1), "the third");
    }

    /** A house of wood in cell 0, beside a plug; office 4 helps; the told cells are the caller's. */
    private static PlateCity planning(int... told) {
        PlateCity x = Bound.cityOf(12, 1);
        x.house(0, 0, 0, 1500);
        x.plug(0, true);
        Bound.tell(x, 4, "help all;");
        for (int cell : told) {
            x.place(cell);
        }
        return x;
    }

    private static void planWhat() {
        Bound.of("30 plan", "NONE when something can't be: the OFFICE, going and pouring");
        Bound.between(0, 8, n -> planning(3).plan(1, n, 1, 1, 0, 1) == 100, "office");
        Bound.between(1, 9, n -> planning(3).plan(1, 4, n, 1, 0, 1) == 100, "goes");
        Bound.between(1, 9, n -> planning(3).plan(1, 4, 1, n, 0, 1) == 100, "pours");
        Bound.of("30 plan", "a FIRE from a told HOUSE; NONE when something can't be");
        Bound.between(0, 11, n -> coveredAndTold().plan(1, 4, 1, 1, n, 1) == 100, "cell");
        Bound.due(-1, planning(3).plan(1, 4, 1, 1, 3, 1), "a cell without a house");
        Bound.of("30 plan", "in some minutes (1 .. 60)");
        Bound.between(1, 60, n -> planning(3).plan(1, 4, 1, 1, 0, n) > 0, "minutes");
        Bound.due(6000, longest().plan(1, 4, 1, 1, 0, 60), "60 minutes of 100");
    }

    private static PlateCity coveredAndTold() {
        PlateCity x = covered(12);
        x.place(3);
        return x;
    }

    private static PlateCity longest() {
        PlateCity x = Bound.row(1, 3, 6000);
        x.place(0);
        return x;
    }

    private static void planK() {
        Bound.of("30 plan", "k (1 .. 3, not more than these)");
        int[] told = {3, 4, 5, 6, 7, 8, 9, 10};
        for (int n = 0; n <= 8; n++) {
            PlateCity x = planning(Arrays.copyOf(told, n));
            for (int k = 0; k <= 4; k++) {
                boolean can = k >= 1 && k <= 3 && k <= n;
                Bound.due(can ? 100 : -1, x.plan(k, 4, 1, 1, 0, 1), k + " of " + n);
            }
            Bound.due(-1, x.plan(-1, 4, 1, 1, 0, 1), "-1 of " + n);
            Bound.due(-1, x.plan(Bound.LEAST, 4, 1, 1, 0, 1), "far fewer");
            Bound.due(-1, x.plan(Bound.MOST, 4, 1, 1, 0, 1), "far more");
            Bound.due(n, x.all(5), "told");
        }
    }

    private static void planEngines() {
        Bound.of("30 plan", "NONE if there would be more than 12 ENGINES");
        PlateCity x = planning(3, 4, 5);
        for (int engines = 0; engines <= 12; engines++) {
            for (int k = 1; k <= 3; k++) {
                Bound.due(engines + k <= 12 ? 100 : -1, x.plan(k, 4, 1, 1, 0, 1), k + " beside " + engines);
                Bound.due(engines, x.all(2), "engines");
            }
            Bound.due(engines < 12 ? engines : -1, x.engine(0, 11, 1, 1), "an engine");
        }
        PlateCity y = planning(1);
        for (int engine = 0; engine < 11; engine++) {
            y.engine(0, 11, 1, 1);
        }
        Bound.due(300, y.plan(1, 4, 1, 9, 0, 15), "the twelfth puts it out");
    }

    private static void planLoss() {
        Bound.of("30 plan", "so that the LOSS of all HOUSES is least");
        for (int k = 1; k <= 3; k++) {
            for (int far = 1; far <= 3; far++) {
                PlateCity x = planning(11, far, 10);
                // One that stands by in minute 3 pours 9 on FIRE 4; each cell more takes a minute more.
                Bound.due(300 + 100 * (far - 1), x.plan(k, 4, 1, 9, 0, 15), k + ", the nearest from " + far);
                Bound.due(k == 1 ? far : 11, x.planned(0), "the first of them");
            }
        }
        PlateCity y = Bound.row(2, 0, 1500);
        y.place(0);
        Bound.due(1000, y.plan(1, 0, 1, 9, 0, 10), "of one, the other just begins");
        Bound.due(1500 + 1000, y.plan(1, 0, 1, 9, 0, 20), "of both");
    }

    private static void planOfLikeOnes() {
        Bound.of("30 plan, 31 planned", "of like ones the first in the order of sets as rows of CELLS told");
        int[][] told = {{3, 4, 5, 6}, {6, 5, 4, 3}, {4, 6, 3, 5}};
        for (int[] row : told) {
            for (int k = 1; k <= 3; k++) {
                PlateCity x = planning(row);
                Bound.due(200, x.plan(k, 4, 1, 9, 0, 2), "no engine drives in two minutes");
                for (int i = 0; i < k; i++) {
                    Bound.due(row[i], x.planned(i), "engine " + i + " of " + k);
                }
            }
        }
    }

    private static void planOrder() {
        Bound.of("30 plan, 31 planned", "a set as a row of CELLS in the order told; the first one that is least");
        // Two of FIRE 4 in minute 3 that pour 2 each put it out, from any of 1, 0; the others are too far.
        int[][] told = {{11, 1, 0, 10}, {0, 11, 10, 1}, {1, 10, 0, 11}};
        int[][] want = {{1, 0}, {0, 1}, {1, 0}};
        for (int i = 0; i < told.length; i++) {
            PlateCity x = planning(told[i]);
            Bound.due(300, x.plan(2, 4, 1, 2, 0, 15), "the two nearest");
            Bound.due(want[i][0], x.planned(0), "the first of them");
            Bound.due(want[i][1], x.planned(1), "the second of them");
        }
        // A third one is of no use: the first set with both of them.
        int[][] more = {{11, 1, 0}, {0, 11, 1}, {1, 10, 0}};
        for (int i = 0; i < told.length; i++) {
            PlateCity x = planning(told[i]);
            Bound.due(300, x.plan(3, 4, 1, 2, 0, 15), "any three with both");
            for (int j = 0; j < 3; j++) {
                Bound.due(more[i][j], x.planned(j), "engine " + j);
            }
        }
    }

    private static void planOfEight() {
        Bound.of("30 plan", "of 1 .. 8 CELLS that are told: each set of them");
        int[] cells = {11, 10, 9, 8, 7, 6, 5, 4};
        for (int near = 0; near < 8; near++) {
            int[] told = cells.clone();
            told[near] = 1;
            PlateCity x = planning(told);
            Bound.due(300, x.plan(1, 4, 1, 9, 0, 15), "near " + near);
            Bound.due(1, x.planned(0), "planned");
        }
        int[][] sets = {{0, 1, 2}, {0, 1, 7}, {0, 6, 7}, {1, 2, 3}, {1, 6, 7}, {2, 4, 6}, {3, 5, 7}, {4, 6, 7},
            {5, 6, 7}};
        for (int[] set : sets) {
            int[] told = cells.clone();
            told[set[0]] = 2;
            told[set[1]] = 0;
            told[set[2]] = 1;
            PlateCity x = planning(told);
            // FIRE 4 less 1 by two of them in minute 3, then 3 less 1 by each of them in minute 4.
            Bound.due(400, x.plan(3, 4, 1, 1, 0, 15), "the three nearest");
            for (int i = 0; i < 3; i++) {
                Bound.due(told[set[i]], x.planned(i), "engine " + i);
            }
        }
    }

    private static void planAsKnown() {
        Bound.of("30 plan", "as known (whom the OFFICE HELPS)");
        PlateCity x = planning(1);
        int[] want = {1500, 300};
        for (int act = 0; act <= 1; act++) {
            x.as(act);
            Bound.due(want[act], x.plan(1, 4, 1, 9, 0, 15), "a plan as known at " + act);
        }
        x.policy(0, 3, 1);
        Bound.due(1500, x.plan(1, 3, 1, 9, 0, 15), "as known at 1: no policy");
        x.as(-1);
        Bound.due(300, x.plan(1, 3, 1, 9, 0, 15), "as known at the last one");
    }

    private static void planLeavesAll() {
        Bound.of("30 plan", "(The latest run() stays.)");
        PlateCity x = planning(1, 2);
        x.engine(4, 11, 9, 1);
        x.plan(1, 4, 1, 9, 0, 15);
        Bound.due(-1, x.lost(), "lost without a run");
        Bound.due(-1, x.came(0, 0), "came without a run");
        x.run(0, 4);
        x.plan(2, 4, 9, 9, 0, 60);
        x.plan(3, 4, 9, 9, 0, 60);
        Bound.due(400, x.lost(), "lost");
        Bound.due(0, x.came(0, 0), "the engine's cell");
        Bound.due(4, x.came(0, 2), "poured first");
        Bound.due(-1, x.came(1, 0), "an engine of the plan");
        Bound.due(4, x.burnt(0, 2), "fire");
        Bound.of("30 plan", "an ENGINE more: in the PLAN alone");
        Bound.due(1, x.all(2), "engines");
        x.run(0, 4);
        Bound.due(400, x.lost(), "lost again");
        Bound.due(1, x.engine(4, 0, 1, 9), "the next engine's number");
        x.run(0, 4);
        Bound.due(300, x.lost(), "with that engine");
        Bound.due(2, x.all(5), "cells told");
    }

    private static void plannedWhat() {
        Bound.of("31 planned", "NONE when there is none such");
        PlateCity x = planning(9, 8, 7, 6);
        for (int i = -1; i <= 4; i++) {
            Bound.due(-1, x.planned(i), "without a plan");
        }
        for (int k = 1; k <= 3; k++) {
            x.plan(k, 4, 1, 1, 0, 1);
            for (int i = -1; i <= 4; i++) {
                Bound.due(i >= 0 && i < k ? 9 - i : -1, x.planned(i), i + " of " + k);
            }
            Bound.due(-1, x.planned(Bound.LEAST), "far below");
            Bound.due(-1, x.planned(Bound.MOST), "far above");
        }
        x.plan(1, 4, 1, 1, 0, 1);
        Bound.due(9, x.planned(0), "one alone again");
        Bound.due(-1, x.planned(1), "the second of before is gone");
        Bound.due(-1, x.planned(2), "the third of before is gone");
    }

    private static void plannedOfTheLatest() {
        Bound.of("31 planned", "of the latest plan() that was not NONE");
        PlateCity x = planning(9, 8, 7);
        Bound.due(-1, x.plan(4, 4, 1, 1, 0, 1), "a plan that can't be");
        Bound.due(-1, x.planned(0), "without another");
        x.plan(2, 4, 1, 1, 0, 1);
        int[][] wrong = {{0, 4, 1, 1, 0, 1}, {4, 4, 1, 1, 0, 1}, {1, 9, 1, 1, 0, 1}, {1, 4, 0, 1, 0, 1},
            {1, 4, 1, 10, 0, 1}, {1, 4, 1, 1, 1, 1}, {1, 4, 1, 1, 0, 0}, {1, 4, 1, 1, 0, 61}};
        for (int[] each : wrong) {
            Bound.due(-1, x.plan(each[0], each[1], each[2], each[3], each[4], each[5]), "a plan that can't be");
            Bound.due(9, x.planned(0), "the first of the latest");
            Bound.due(8, x.planned(1), "the second of the latest");
            Bound.due(-1, x.planned(2), "no third");
        }
        x.place(1);
        Bound.due(8, x.planned(1), "a cell told since changes nothing");
        x.plan(1, 4, 1, 9, 0, 15);
        Bound.due(1, x.planned(0), "the latest");
        Bound.due(-1, x.planned(1), "the latest");
    }
}
