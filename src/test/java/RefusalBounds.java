import java.util.function.Consumer;

/** A call that is refused leaves everything as it was: all that a city with some of everything tells behind it. */
public final class RefusalBounds {
    private static final int L = Bound.LEAST;
    private static final int M = Bound.MOST;

    private RefusalBounds() { }

    public static void main(String[] args) {
        cities();
        winds();
        offices();
        acts();
        sought();
        plans();
        tape();
        terms();
        twelveEngines();
        twoHundredActs();
        Bound.finish("RefusalBounds");
    }

    private static void cities() {
        leaves("4 city", "false when it can't be", x -> {
            for (int[] each : new int[][] {{0, 1}, {1, 0}, {13, 1}, {1, 11}, {0, 0}, {-1, -1}, {13, 11}, {L, M},
                {M, L}, {1, L}, {M, 1}}) {
                Bound.no(x.city(each[0], each[1]), "a city of " + each[0] + " by " + each[1]);
            }
        });
        leaves("5 house", "false when something can't be", x -> {
            for (int[] each : new int[][] {{6, 0, 0, 0}, {-1, 0, 0, 0}, {0, 4, 0, 0}, {0, -1, 0, 0}, {0, 0, 6, 0},
                {0, 0, -1, 0}, {0, 0, 0, 10000}, {0, 0, 0, -1}, {2, 4, 5, 9999}, {2, 3, 6, 1}, {L, M, L, M},
                {0, M, 0, 0}, {0, 0, L, 0}}) {
                Bound.no(x.house(each[0], each[1], each[2], each[3]), "a house that can't be");
            }
        });
        leaves("6 plug", "false when there is none such", x -> {
            for (int cell : new int[] {-1, 6, 120, L, M}) {
                Bound.no(x.plug(cell, true), "a plug in " + cell);
                Bound.no(x.plug(cell, false), "no plug in " + cell);
            }
        });
    }

    private static void winds() {
        leaves("7 hazard", "false when it can't be", x -> {
            for (int[] each : new int[][] {{-1, 0}, {6, 0}, {0, -1}, {0, 10}, {1, L}, {1, M}, {L, 5}, {M, 5}}) {
                Bound.no(x.hazard(each[0], each[1]), "a hazard that can't be");
            }
        });
        leaves("8 wind", "false when it can't be", x -> {
            for (int[] each : new int[][] {{0, 2, 9}, {121, 2, 9}, {1, -1, 9}, {1, 8, 9}, {1, 2, -1}, {1, 2, 21},
                {-1, 2, 9}, {2, 8, 20}, {2, 2, 21}, {L, 2, 9}, {M, 2, 9}, {1, L, M}}) {
                Bound.no(x.wind(each[0], each[1], each[2]), "a wind that can't be");
            }
        });
    }

    private static void offices() {
        leaves("9 coin", "false when it can't be", x -> {
            for (int[] each : new int[][] {{-1, 5}, {9, 5}, {0, -1}, {0, 100000001}, {1, -1}, {1, M}, {1, L}, {L, 0},
                {M, 0}}) {
                Bound.no(x.coin(each[0], each[1]), "a coin that can't be");
            }
        });
        leaves("10 engine", "NONE when something can't be", x -> {
            for (int[] each : new int[][] {{-1, 0, 1, 1}, {9, 0, 1, 1}, {0, -1, 1, 1}, {0, 6, 1, 1}, {0, 0, 0, 1},
                {0, 0, 10, 1}, {0, 0, 1, 0}, {0, 0, 1, 10}, {L, M, L, M}, {0, 0, -1, 1}, {0, 0, 1, M}}) {
                Bound.due(-1, x.engine(each[0], each[1], each[2], each[3]), "an engine that can't be");
            }
        });
        leaves("11 deal", "false when it can't be", x -> {
            for (int[] each : new int[][] {{-1, 0, 1}, {9, 0, 1}, {0, -1, 1}, {0, 9, 1}, {1, 1, 1}, {1, 0, -1},
                {1, 0, 1001}, {2, 1, M}, {2, 1, L}, {L, L, 0}, {M, 0, 1000}}) {
                Bound.no(x.deal(each[0], each[1], each[2]), "a deal that can't be");
            }
        });
    }

    private static void acts() {
        leaves("14 policy", "NONE when something can't be (no HOUSE there)", x -> {
            for (int[] each : new int[][] {{2, 0, 1}, {6, 0, 1}, {-1, 0, 1}, {0, 9, 1}, {0, -1, 1}, {0, 0, 0},
                {0, 0, 100000}, {0, 0, -1}, {L, M, L}, {0, 0, M}}) {
                Bound.due(-1, x.policy(each[0], each[1], each[2]), "a policy that can't be");
            }
        });
        leaves("15 annul", "NONE when there is none such, it is VOID or tells so", x -> {
            for (int act : new int[] {0, -1, 6, 7, 9, 10, 200, 201, L, M}) {
                Bound.due(-1, x.annul(act), "a void of " + act);
            }
        });
        leaves("16 as", "false when there is none such", x -> {
            for (int act : new int[] {-2, -3, 9, 10, 200, 201, L, M}) {
                Bound.no(x.as(act), "as known at " + act);
            }
        });
    }

    private static void sought() {
        leaves("20 run", "NONE when something can't be", x -> {
            for (int[] each : new int[][] {{0, 0}, {0, 121}, {2, 5}, {6, 5}, {-1, 5}, {0, -1}, {L, L}, {M, M},
                {0, L}}) {
                Bound.due(-1, x.run(each[0], each[1]), "a run that can't be");
            }
        });
        leaves("28 worst", "NONE when something can't be (and when it can)", x -> {
            for (int[] each : new int[][] {{9, 5}, {-1, 5}, {0, 0}, {0, 61}, {L, M}, {8, 60}, {0, 60}, {1, 1}}) {
                x.worst(each[0], each[1]);
            }
            Bound.due(-1, x.worst(9, 5), "no office");
        });
        leaves("29 place", "NONE when there is none such, it is told already", x -> {
            for (int cell : new int[] {2, 3, 6, -1, 120, L, M}) {
                Bound.due(-1, x.place(cell), "cell " + cell + " told");
            }
        });
    }

    private static void plans() {
        leaves("30 plan", "NONE when something can't be", x -> {
            for (int[] each : new int[][] {{0, 0, 2, 3, 0, 12}, {3, 0, 2, 3, 0, 12}, {4, 0, 2, 3, 0, 12},
                {1, 9, 2, 3, 0, 12}, {1, -1, 2, 3, 0, 12}, {1, 0, 0, 3, 0, 12}, {1, 0, 10, 3, 0, 12},
                {1, 0, 2, 0, 0, 12}, {1, 0, 2, 10, 0, 12}, {1, 0, 2, 3, 2, 12}, {1, 0, 2, 3, 6, 12},
                {1, 0, 2, 3, 0, 0}, {1, 0, 2, 3, 0, 61}, {L, L, L, L, L, L}, {M, M, M, M, M, M}}) {
                Bound.due(-1, x.plan(each[0], each[1], each[2], each[3], each[4], each[5]), "a plan that can't be");
            }
        });
    }

    private static void tape() {
        leaves("3 end", "false, doing nothing, if it has not so many, or n is below 0", x -> {
            for (int n : new int[] {7, 20, 600, -1, L, M}) {
                Bound.no(x.end(n), "the first " + n);
            }
        });
        Bound.of("2 feed", "NONE, doing nothing, if there would be more than 600");
        PlateCity x = scene();
        x.end(0);
        Bound.tape(x, "pay 8;pay 9;" + Bound.times(574, " "));
        String before = look(x);
        Bound.due(-1, x.feed(M, L, -1, 0, 1), "606 bytes");
        same(before, look(x));
        Bound.no(x.end(587), "a byte more than 586");
        Bound.due(9, x.terms(3), "the tape as it was");
        x.as(-1);
        Bound.due(2, x.force(3), "its two statements");
    }

    private static void terms() {
        Bound.of("12 terms", "NONE with a FAULT: all but the tape and the FAULT stays");
        PlateCity x = scene();
        x.end(4);
        String before = look(x);
        Bound.due(-1, x.terms(0), "a text that ends too soon");
        Bound.due(1, x.fault(0), "its fault");
        Bound.due(4, x.fault(1), "its place");
        same(before.replace("fault 1 3", "fault 1 4"), look(x));
        Bound.of("12 terms", "-2 when there is no such OFFICE (no text is read then): all but the tape stays");
        for (int office : new int[] {-1, 9, L, M}) {
            PlateCity y = scene();
            String all = look(y);
            Bound.due(-2, y.terms(office), "terms of " + office);
            same(all, look(y));
            Bound.no(y.end(1), "a byte on the tape");
        }
    }

    private static void twelveEngines() {
        Bound.of("10 engine", "NONE when there are 12: all stays");
        PlateCity x = scene();
        for (int engine = 2; engine < 12; engine++) {
            Bound.due(engine, x.engine(8, 2, 1, 1), "engine");
        }
        x.run(0, 14);
        String before = look(x);
        Bound.due(-1, x.engine(0, 0, 9, 9), "the 13th");
        Bound.due(-1, x.plan(1, 0, 2, 3, 0, 12), "a plan with a 13th");
        same(before, look(x));
        x.run(0, 14);
        same(before, look(x));
    }

    private static void twoHundredActs() {
        Bound.of("12 terms, 14 policy, 15 annul", "NONE, -2 when there are 200: all stays");
        PlateCity x = scene();
        x.end(0);
        for (int act = 9; act <= 200; act++) {
            x.policy(4, 3, 1);
        }
        x.as(200);
        x.run(0, 14);
        String before = look(x);
        Bound.due(-1, x.policy(0, 0, 1), "a policy");
        Bound.due(-1, x.annul(1), "a void");
        Bound.due(-1, x.annul(200), "a void");
        Bound.due(-2, x.terms(0), "terms");
        Bound.no(x.as(201), "known as at the 201st");
        same(before, look(x));
    }

    /** Behind these calls the scene tells what an untouched one tells: of its run, a new one, a plan, its tape. */
    private static void leaves(String promise, String sentence, Consumer<PlateCity> refused) {
        Bound.of(promise, sentence + ": all stays");
        PlateCity touched = scene();
        refused.accept(touched);
        same(lookTwice(scene()), lookTwice(touched));
    }

    private static String lookTwice(PlateCity x) {
        StringBuilder all = new StringBuilder(look(x));
        all.append(" run ").append(x.run(0, 40)).append(" lost ").append(x.lost()).append(' ').append(look(x));
        all.append(" worst ").append(x.worst(0, 40)).append(' ').append(x.worst(1, 40));
        all.append(" plan ").append(x.plan(1, 0, 2, 3, 1, 30)).append(" planned ").append(x.planned(0));
        all.append(" terms ").append(x.terms(3)).append(" as ").append(x.as(-1)).append(" force ").append(x.force(3));
        return all.toString();
    }

    private static void same(String untouched, String touched) {
        Bound.due(0, untouched.equals(touched) ? 0 : 1, "touched: " + touched + "\nuntouched: " + untouched
            + "\nwhether they differ");
    }

    /** A city with some of everything, a fault, a run, a plan, six bytes on the tape, known as at 8. */
    private static PlateCity scene() {
        PlateCity x = Bound.cityOf(3, 2);
        x.house(0, 0, 0, 1500);
        x.house(1, 0, 1, 2500);
        x.house(3, 1, 2, 999);
        x.house(4, 3, 3, 6000);
        x.plug(3, true);
        x.hazard(0, 6);
        x.hazard(1, 4);
        x.wind(1, 2, 9);
        x.wind(4, 4, 5);
        x.coin(0, 70);
        x.coin(1, 200);
        x.engine(0, 5, 1, 1);
        x.engine(8, 2, 2, 1);
        x.deal(1, 0, 500);
        x.deal(2, 1, 300);
        Bound.tell(x, 0, "cover all;premium sum/10;beside first;help wall=0;");
        Bound.tell(x, 1, "cover loss>100;pay loss/2;premium others+near;");
        x.policy(0, 0, 800);
        x.policy(0, 1, 900);
        x.policy(1, 1, 2000);
        x.policy(4, 2, 5);
        x.annul(6);
        x.policy(3, 0, 50);
        x.as(8);
        x.place(2);
        x.place(3);
        x.plan(1, 0, 2, 3, 0, 12);
        x.run(0, 14);
        Bound.tell(x, 0, "pay;");
        Bound.tape(x, "pay 7;");
        return x;
    }

    private static String look(PlateCity x) {
        StringBuilder all = new StringBuilder("all");
        for (int what = 0; what < 7; what++) {
            all.append(' ').append(x.all(what));
        }
        all.append(" fault ").append(x.fault(0)).append(' ').append(x.fault(1));
        all.append(" lost ").append(x.lost()).append(" rounds ").append(x.rounds()).append(" offices");
        for (int office = 0; office < 4; office++) {
            all.append(' ').append(x.force(office)).append(' ').append(x.settled(office));
        }
        for (int office = 0; office < 3; office++) {
            all.append(' ').append(x.fall(office, 0)).append(' ').append(x.fall(office, 1));
        }
        all.append(" acts");
        for (int act = 3; act <= 8; act++) {
            all.append(' ').append(x.premium(act));
            all.append(' ').append(x.claim(act, 0)).append(' ').append(x.claim(act, 1));
        }
        all.append(" cells");
        for (int cell = 0; cell < 6; cell++) {
            all.append(' ').append(x.helps(cell));
            for (int what = 0; what < 6; what++) {
                all.append(' ').append(x.burnt(cell, what));
            }
        }
        all.append(" engines");
        for (int engine = 0; engine < 3; engine++) {
            for (int what = 0; what < 3; what++) {
                all.append(' ').append(x.came(engine, what));
            }
        }
        all.append(" planned ").append(x.planned(0)).append(' ').append(x.planned(1));
        return all.toString();
    }
}
