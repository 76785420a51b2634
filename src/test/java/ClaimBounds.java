import java.util.Arrays;

/** The boundary cases of claims and the fall: promises 24 to 27, and section V of the document's terms. */
public final class ClaimBounds {
    private static final int OFFICES = 9;

    private ClaimBounds() { }

    public static void main(String[] args) {
        claimWhat();
        claimThen();
        asksNothing();
        asksByTests();
        asksTheLesser();
        paysTheLast();
        asksByFacts();
        settledFirst();
        settledAfter();
        settledParts();
        settledRests();
        settledOrder();
        besides();
        settledByEachHouse();
        settledByMany();
        settledByTwoHundred();
        settledOffices();
        fallWhat();
        fallOwes();
        fallOfDeals();
        fallPays();
        fallFloors();
        fallAsNow();
        roundsLeast();
        roundsChange();
        roundsAtMost();
        Bound.finish("ClaimBounds");
    }

    /** One house worth 1500, of which each minute takes 100; terms of offices from 0 on, a policy of each. */
    private static PlateCity insured(int minutes, int[] sums, String... texts) {
        PlateCity x = Bound.row(1, 0, 1500);
        for (int office = 0; office < texts.length; office++) {
            Bound.due(office + 1, Bound.tell(x, office, texts[office]), "terms " + texts[office]);
        }
        for (int i = 0; i < sums.length; i++) {
            x.policy(0, i % texts.length, sums[i]);
        }
        x.run(0, minutes);
        return x;
    }

    private static void settledAre(PlateCity x, int firstAct, int... want) {
        for (int i = 0; i < want.length; i++) {
            Bound.due(want[i], x.claim(firstAct + i, 1), "settled for policy " + i);
        }
    }

    private static void claimWhat() {
        Bound.of("24 claim", "NONE when it was none, or not known then, for others");
        PlateCity x = Bound.row(1, 0, 1500);
        Bound.tell(x, 0, "cover all;");
        x.policy(0, 0, 70);
        x.policy(0, 0, 80);
        x.annul(3);
        x.policy(0, 0, 90);
        x.run(0, 2);
        int[] asks = {-1, -1, 70, -1, -1, 90, -1};
        for (int act = 0; act <= 6; act++) {
            Bound.due(asks[act], x.claim(act, 0), "what " + act + " asks");
            Bound.due(asks[act], x.claim(act, 1), "what is settled for " + act);
        }
        for (int act : new int[] {-1, 199, 200, 201, Bound.LEAST, Bound.MOST}) {
            Bound.due(-1, x.claim(act, 0), "none such: " + act);
            Bound.due(-1, x.claim(act, 1), "none such: " + act);
        }
        for (int what : new int[] {-1, 2, Bound.LEAST, Bound.MOST}) {
            Bound.due(-1, x.claim(2, what), "what " + what);
        }
        Bound.of("24 claim", "NONE without a run()");
        PlateCity y = Bound.row(1, 0, 1500);
        y.policy(0, 0, 70);
        Bound.due(-1, y.claim(1, 0), "asks");
        Bound.due(-1, y.claim(1, 1), "settled");
        y.worst(0, 5);
        Bound.due(-1, y.claim(1, 0), "asks, after worst");
        y.run(0, 0);
        Bound.due(-1, y.claim(1, 0), "asks, after a run that can't be");
        y.run(0, 1);
        Bound.due(0, y.claim(1, 0), "asks, after a run");
    }

    private static void claimThen() {
        Bound.of("24 claim", "what is not known, or not asked in this run, takes nothing");
        PlateCity z = Bound.row(2, 0, 1500);
        Bound.tell(z, 0, "cover all;beside after;");
        Bound.tell(z, 1, "cover all;beside first;");
        z.policy(0, 0, 400);
        z.policy(0, 1, 400);
        z.run(0, 5);
        settledAre(z, 3, 100, 400);
        z.as(3);
        z.run(0, 5);
        settledAre(z, 3, 400, -1);
        Bound.due(0, z.settled(1), "settled for the office whose policy is not known");
        z.as(-1);
        z.run(1, 5);
        Bound.due(0, z.claim(3, 0), "asks of a house that did not burn this time");
        settledAre(z, 3, 0, 0);
        Bound.of("24 claim, 25 settled", "of the latest run() that was not NONE, as known then");
        PlateCity x = Bound.row(1, 0, 1500);
        Bound.tell(x, 0, "cover all;");
        x.policy(0, 0, 70);
        x.run(0, 2);
        x.policy(0, 0, 80);
        Bound.due(-1, x.claim(3, 0), "told since");
        x.annul(2);
        Bound.due(70, x.claim(2, 0), "void since");
        Bound.tell(x, 0, "void all;");
        x.house(0, 3, 0, 0);
        x.as(0);
        Bound.due(70, x.claim(2, 1), "terms, house, what is known are others since");
        Bound.due(70, x.settled(0), "settled");
        x.run(0, 2);
        Bound.due(-1, x.claim(2, 0), "nothing is known now");
        Bound.due(0, x.settled(0), "nothing is settled now");
        x.as(2);
        x.house(0, 0, 0, 1500);
        x.run(0, 2);
        x.as(-1);
        Bound.due(70, x.claim(2, 0), "as known at 2");
        Bound.due(-1, x.claim(3, 0), "not known at 2");
        x.run(0, 2);
        Bound.due(-1, x.claim(2, 0), "void by now");
        Bound.due(0, x.claim(3, 0), "known by now, but void by the terms");
    }

    private static void asksNothing() {
        Bound.of("24 claim", "it ASKS nothing, if LOSS is 0");
        for (int worth = 14; worth <= 16; worth++) {
            PlateCity x = Bound.row(2, 0, worth);
            Bound.tell(x, 0, "cover all;pay 900;");
            x.policy(0, 0, 800);
            x.policy(1, 0, 800);
            x.run(0, 1);
            Bound.due(worth < 15 ? 0 : 800, x.claim(2, 0), "asks of a loss of " + worth + " / 15");
            Bound.due(worth < 15 ? 0 : 1, x.claim(2, 1), "settled of it");
            Bound.due(0, x.claim(3, 0), "asks of the house that never burnt");
        }
        Bound.of("24 claim", "or no cover does; without TERMS as well");
        PlateCity x = Bound.row(1, 0, 1500);
        x.policy(0, 0, 800);
        x.run(0, 5);
        Bound.due(0, x.claim(1, 0), "asks without terms");
        Bound.due(0, x.claim(1, 1), "settled without terms");
        Bound.due(0, asksBy(""), "empty terms");
        Bound.due(0, asksBy("pay 300;help all;premium 5;beside first;"), "no cover");
    }

    /** Asked by a policy with a SUM of 800, of a LOSS of 500. */
    private static int asksBy(String text) {
        return insured(5, new int[] {800}, text).claim(2, 0);
    }

    private static void asksByTests() {
        Bound.of("24 claim", "some void holds, or no cover does");
        Bound.due(500, asksBy("cover all;"), "cover");
        Bound.due(0, asksBy("cover not all;"), "no cover holds");
        Bound.due(500, asksBy("cover not all;cover all;"), "the second holds");
        Bound.due(500, asksBy("cover all;cover not all;"), "the first holds");
        Bound.due(0, asksBy("cover not all;cover 1=2;"), "none of two");
        Bound.due(0, asksBy("cover all;void all;"), "a void holds");
        Bound.due(500, asksBy("cover all;void not all;"), "no void holds");
        Bound.due(0, asksBy("cover all;void all;void not all;"), "the first void holds");
        Bound.due(0, asksBy("void not all;cover all;void all;"), "the second void holds");
        Bound.due(0, asksBy("void all;"), "a void alone");
        Bound.due(500, asksBy(Bound.times(23, "cover not all;") + "cover all;"), "the last of 24");
        Bound.due(0, asksBy(Bound.times(23, "cover all;") + "void all;"), "the last of 24");
    }

    private static void asksTheLesser() {
        Bound.of("24 claim", "else the lesser one of its SUM and pay (0 at least)");
        int[] pays = {0, 1, 799, 800, 801, 99999};
        for (int pay : pays) {
            Bound.due(Math.min(800, pay), asksBy("cover all;pay " + pay + ";"), "pay " + pay);
        }
        Bound.due(0, asksBy("cover all;pay 0-1;"), "pay -1");
        Bound.due(0, asksBy("cover all;pay 0-99999*99999;"), "pay far below 0");
        Bound.due(800, asksBy("cover all;pay 99999*99999;"), "pay far above");
        Bound.due(1, insured(5, new int[] {1}, "cover all;pay 9;").claim(2, 0), "the least sum");
        Bound.due(99999, insured(5, new int[] {99999}, "cover all;pay 99999*9;").claim(2, 0), "the greatest sum");
        Bound.due(500, insured(5, new int[] {99999}, "cover all;pay 99999*9;").claim(2, 1), "settled of it: the loss");
    }

    private static void paysTheLast() {
        Bound.of("24 claim", "pay SUM (the last one counts; without one loss)");
        Bound.due(500, asksBy("cover all;"), "without one");
        Bound.due(7, asksBy("pay 300;cover all;pay 7;"), "the last");
        Bound.due(0, asksBy("cover all;pay 300;pay 0;"), "the last, of 0");
        Bound.due(0, asksBy("cover all;pay 300;pay 0-5;premium 9;"), "the last, below 0");
        Bound.due(500, asksBy("cover all;pay loss;"), "loss told");
        Bound.due(24, asksBy("cover all;" + Bound.times(22, "pay 7;") + "pay 24;"), "the last of 24");
    }

    private static void asksByFacts() {
        Bound.of("24 claim", "They are of a HOUSE and a POLICY on it: sum, others, loss, near, wall, trade, worth");
        PlateCity x = Bound.row(3, 0, 1500);
        x.house(1, 1, 5, 2500);
        Bound.tell(x, 0, "cover all;pay sum/10 + others*1000 + loss + near;");
        Bound.tell(x, 8, "cover wall=1 and trade=5 and worth=2500 and office 0 and not office 7;");
        x.policy(1, 0, 20000);
        x.policy(1, 8, 30000);
        x.policy(1, 0, 40000);
        x.policy(0, 0, 50000);
        x.run(1, 3);
        Bound.due(2000 + 2000 + 300 + 2, x.claim(3, 0), "of two others");
        Bound.due(300, x.claim(4, 0), "the other office's");
        Bound.due(4000 + 2000 + 300 + 2, x.claim(5, 0), "of two others");
        Bound.due(0, x.claim(6, 0), "no loss");
        x.annul(4);
        x.run(1, 3);
        Bound.due(2000 + 1000 + 300 + 2, x.claim(3, 0), "of one other");
    }

    private static void settledFirst() {
        Bound.of("24 claim", "those that are first pay, one behind the other, the lesser one of what they ASK and"
            + " what is left");
        String first = "cover all;beside first;pay sum;";
        int[][] sums = {{499, 1, 1}, {499, 2, 1}, {500, 1, 1}, {501, 1, 1}, {1, 498, 9}, {250, 250, 250}};
        int[][] want = {{499, 1, 0}, {499, 1, 0}, {500, 0, 0}, {500, 0, 0}, {1, 498, 1}, {250, 250, 0}};
        for (int i = 0; i < sums.length; i++) {
            settledAre(insured(5, sums[i], first, first, first), 4, want[i]);
        }
        Bound.of("24 claim", "what is left to pay is LOSS at first");
        settledAre(insured(1, new int[] {5000}, first), 2, 100);
        settledAre(insured(15, new int[] {5000}, first), 2, 1500);
    }

    private static void settledAfter() {
        Bound.of("24 claim", "then those that are after, one behind the other, as the first ones");
        String after = "cover all;pay sum;beside after;";
        int[][] sums = {{499, 1, 1}, {499, 2, 1}, {500, 1, 1}, {501, 1, 1}, {1, 498, 9}, {100, 100, 100}};
        int[][] want = {{499, 1, 0}, {499, 1, 0}, {500, 0, 0}, {500, 0, 0}, {1, 498, 1}, {100, 100, 100}};
        for (int i = 0; i < sums.length; i++) {
            settledAre(insured(5, sums[i], after, after, after), 4, want[i]);
        }
        Bound.of("24 claim", "first, then parts, then after, whatever their ACTS");
        String first = "cover all;pay sum;beside first;";
        String parts = "cover all;pay sum;beside parts;";
        settledAre(insured(5, new int[] {400, 400, 400}, after, parts, first), 4, 0, 100, 400);
        settledAre(insured(5, new int[] {100, 100, 100}, after, parts, first), 4, 100, 100, 100);
        settledAre(insured(5, new int[] {400, 200, 200}, after, parts, first), 4, 100, 200, 200);
        settledAre(insured(5, new int[] {400, 200, 300}, after, parts, first), 4, 0, 200, 300);
        settledAre(insured(5, new int[] {400, 201, 300}, after, parts, first), 4, 0, 200, 300);
        settledAre(insured(5, new int[] {400, 199, 300}, after, parts, first), 4, 1, 199, 300);
        settledAre(insured(5, new int[] {400, 200, 500}, after, parts, first), 4, 0, 0, 500);
    }

    private static void settledParts() {
        Bound.of("24 claim", "if what they ASK together is not above what is left, that");
        String parts = "cover all;pay sum;";
        settledAre(insured(5, new int[] {100, 150, 250}, parts, parts, parts), 4, 100, 150, 250);
        settledAre(insured(5, new int[] {100, 150, 249}, parts, parts, parts), 4, 100, 150, 249);
        settledAre(insured(5, new int[] {500}, parts), 2, 500);
        settledAre(insured(5, new int[] {1}, parts), 2, 1);
        Bound.of("24 claim", "else each floor(left times what it ASKS / all)");
        settledAre(insured(5, new int[] {501}, parts), 2, 500);
        settledAre(insured(5, new int[] {500, 500}, parts, parts), 3, 250, 250);
        settledAre(insured(5, new int[] {250, 250, 500}, parts, parts, parts), 4, 125, 125, 250);
        settledAre(insured(15, new int[] {99999, 99999, 99999}, parts, parts, parts), 4, 500, 500, 500);
        PlateCity x = Bound.row(1, 0, 9999);
        Bound.tell(x, 0, parts);
        x.policy(0, 0, 99999);
        x.policy(0, 0, 99998);
        x.run(0, 15);
        settledAre(x, 2, 5000, 4999);
    }

    private static void settledRests() {
        Bound.of("24 claim", "and 1 each of what lacks to those with the greatest rests");
        String parts = "cover all;pay sum;";
        // 500 of 501: 100 * 500 / 501 = 99 with a rest of 401, 150: 149 of 351, 251: 250 of 250.
        settledAre(insured(5, new int[] {100, 150, 251}, parts, parts, parts), 4, 100, 150, 250);
        settledAre(insured(5, new int[] {251, 150, 100}, parts, parts, parts), 4, 250, 150, 100);
        settledAre(insured(5, new int[] {150, 251, 100}, parts, parts, parts), 4, 150, 250, 100);
        // 100 of 7: 1, 2, 4 are 14, 28, 57 with rests of 2, 4, 1.
        settledAre(insured(1, new int[] {100, 200, 400}, parts, parts, parts), 4, 14, 29, 57);
        // 100 of 126: 30, 36, 60 are 23, 28, 47 with rests of 102, 72, 78.
        settledAre(insured(1, new int[] {30, 36, 60}, parts, parts, parts), 4, 24, 28, 48);
        Bound.of("24 claim", "of like ones the least ACT");
        // 100 by three: 33 each, one lacks; 200 by three: 66 each, two lack.
        settledAre(insured(1, new int[] {700, 700, 700}, parts, parts, parts), 4, 34, 33, 33);
        settledAre(insured(2, new int[] {700, 700, 700}, parts, parts, parts), 4, 67, 67, 66);
        settledAre(insured(3, new int[] {700, 700, 700}, parts, parts, parts), 4, 100, 100, 100);
        settledAre(insured(1, new int[] {9, 300, 300, 300}, "", parts, parts, parts), 5, 0, 34, 33, 33);
        Bound.of("24 claim", "those that ASK nothing get nothing of what lacks");
        String none = "cover not all;";
        settledAre(insured(1, new int[] {700, 700, 700, 700}, none, parts, parts, parts), 5, 0, 34, 33, 33);
        settledAre(insured(2, new int[] {700, 700, 700, 700}, parts, none, parts, parts), 5, 67, 0, 67, 66);
    }

    private static void settledOrder() {
        Bound.of("24 claim", "POLICY by POLICY (by ACT)");
        PlateCity x = Bound.row(1, 0, 1500);
        Bound.tell(x, 3, "cover all;beside first;");
        Bound.tell(x, 1, "cover all;beside first;");
        x.policy(0, 3, 400);
        x.policy(0, 1, 400);
        x.policy(0, 3, 400);
        x.run(0, 5);
        settledAre(x, 3, 400, 100, 0);
        x.annul(3);
        x.policy(0, 3, 400);
        x.run(0, 5);
        Bound.due(400, x.claim(4, 1), "the least act now");
        Bound.due(100, x.claim(5, 1), "the next one");
        Bound.due(0, x.claim(7, 1), "the last one");
        Bound.due(-1, x.claim(3, 1), "the void one");
    }

    private static void besides() {
        Bound.of("24 claim", "beside (the last one counts; parts without one)");
        String first = "cover all;beside first;pay 400;";
        String parts = "cover all;pay 400;beside parts;";
        String after = "cover all;pay 400;beside after;";
        int[] sums = {9999, 9999};
        settledAre(insured(5, sums, "cover all;pay 400;", parts), 3, 250, 250);
        settledAre(insured(5, sums, "cover all;pay 400;", first), 3, 100, 400);
        settledAre(insured(5, sums, "cover all;pay 400;", after), 3, 400, 100);
        settledAre(insured(5, sums, first + "beside after;", parts), 3, 100, 400);
        settledAre(insured(5, sums, after + "beside first;pay 400;", parts), 3, 400, 100);
        settledAre(insured(5, sums, first + "beside after;beside parts;", parts), 3, 250, 250);
        settledAre(insured(5, sums, parts, after + Bound.times(20, "beside after;") + "beside first;"), 3, 100, 400);
    }

    private static void settledByEachHouse() {
        Bound.of("24 claim", "CLAIMS of a HOUSE: each for itself");
        PlateCity x = Bound.row(2, 0, 1500);
        x.house(1, 0, 0, 3000);
        for (int office = 0; office < 3; office++) {
            Bound.tell(x, office, "cover all;pay sum;beside " + new String[] {"first", "parts", "after"}[office] + ";");
        }
        for (int office = 0; office < 3; office++) {
            x.policy(0, office, 300);
        }
        x.policy(1, 0, 10);
        x.policy(1, 1, 20);
        x.policy(1, 2, 30);
        x.policy(0, 1, 1);
        // The first loses 1200, the second 400.
        x.run(0, 12);
        settledAre(x, 4, 300, 300, 300, 10, 20, 30, 1);
        // The first loses 100, the second nothing; then the other way around, 200.
        x.run(0, 1);
        settledAre(x, 4, 100, 0, 0, 0, 0, 0, 0);
        x.run(1, 1);
        settledAre(x, 4, 0, 0, 0, 10, 20, 30, 0);
        settledByRests();
    }

    /** The rests of one house are nothing to those of the next. */
    private static void settledByRests() {
        PlateCity y = Bound.row(2, 0, 1500);
        Bound.tell(y, 0, "cover all;pay sum;");
        Bound.tell(y, 1, "cover all;pay sum;beside first;");
        Bound.tell(y, 2, "cover all;pay sum;beside after;");
        y.policy(0, 0, 701);
        y.policy(0, 0, 800);
        y.policy(0, 0, 900);
        y.policy(1, 2, 1);
        y.policy(1, 1, 1);
        y.policy(1, 0, 500);
        y.policy(1, 0, 500);
        y.run(0, 12);
        // 1200 of 2401 are 350, 399, 449 with rests of 850, 2001, 1951. 200: 1 is paid first, then halves of 199.
        settledAre(y, 4, 350, 400, 450, 0, 1, 100, 99);
        PlateCity z = Bound.row(2, 0, 1500);
        Bound.tell(z, 0, "cover all;pay sum;");
        z.policy(0, 0, 800);
        z.policy(0, 0, 900);
        z.policy(0, 0, 701);
        z.policy(1, 0, 301);
        z.policy(1, 0, 300);
        z.run(0, 12);
        // 200 of 601 are 100, 99 with rests of 100, 501.
        settledAre(z, 2, 400, 450, 350, 100, 100);
    }

    private static void settledByTwoHundred() {
        Bound.of("24 claim", "POLICIES of 200 ACTS, the last one too");
        PlateCity x = Bound.row(1, 0, 1500);
        for (int act = 1; act <= 200; act++) {
            x.policy(0, act % OFFICES, 5);
        }
        x.run(0, 5);
        Bound.due(0, x.claim(1, 0), "the first asks nothing, without terms");
        Bound.due(0, x.claim(200, 0), "the last one as well");
        Bound.due(-1, x.claim(201, 0), "none such");
        x.as(199);
        x.run(0, 5);
        Bound.due(0, x.claim(199, 0), "the last one known");
        Bound.due(-1, x.claim(200, 0), "not known then");
        x.worst(0, 5);
        Bound.due(0, x.settled(0), "nothing is settled");
    }

    private static void settledByMany() {
        Bound.of("24 claim, 25 settled", "as many POLICIES on a HOUSE as ACTS allow");
        PlateCity x = Bound.row(1, 0, 15);
        Bound.tell(x, 0, "cover all;pay 7;");
        for (int act = 2; act <= 200; act++) {
            x.policy(0, 0, 5);
        }
        int[] minutes = {1, 2, 14, 15};
        for (int loss : minutes) {
            x.run(0, loss);
            Bound.due(loss, x.settled(0), "settled");
            Bound.due(5, x.claim(200, 0), "the last one asks");
            Bound.due(1, x.claim(1 + loss, 1), "the last that gets one");
            Bound.due(0, x.claim(2 + loss, 1), "the first that does not");
            Bound.due(0, x.claim(200, 1), "the last one gets nothing");
        }
    }

    private static void settledOffices() {
        Bound.of("25 settled", "NONE when there is none such, or without a run()");
        PlateCity x = Bound.row(2, 0, 1500);
        for (int office = 0; office < OFFICES; office++) {
            Bound.due(-1, x.settled(office), "without a run");
        }
        Bound.tell(x, 0, "cover all;");
        Bound.tell(x, 8, "cover all;beside first;");
        x.policy(0, 0, 150);
        x.policy(0, 8, 50);
        x.policy(0, 8, 60);
        x.policy(1, 8, 90);
        x.run(0, 12);
        Bound.between(0, 8, n -> x.settled(n) != -1, "office");
        Bound.of("25 settled", "What is SETTLED for all POLICIES of an OFFICE");
        Bound.due(150, x.settled(0), "of one policy");
        Bound.due(50 + 60 + 90, x.settled(8), "of three, on two houses");
        for (int office = 1; office < 8; office++) {
            Bound.due(0, x.settled(office), "of none");
        }
    }

    /** Office i covers its own house, lost whole; the deals are told by the caller. */
    private static PlateCity settledAs(int... sums) {
        PlateCity x = Bound.row(1, 0, 9990);
        for (int office = 0; office < sums.length; office++) {
            Bound.tell(x, office, "cover all;pay sum;beside first;");
            x.policy(0, office, Math.max(1, sums[office]));
        }
        x.run(0, 15);
        return x;
    }

    private static void fallsTo(PlateCity x, int office, long owes, long pays, int fallen, long houses) {
        Bound.due(owes, x.fall(office, 0), "what " + office + " owes");
        Bound.due(pays, x.fall(office, 1), "what " + office + " pays");
        Bound.due(fallen, x.fall(office, 2), "whether " + office + " is fallen");
        Bound.due(houses, x.fall(office, 3), "what " + office + " pays to houses");
    }

    private static void fallWhat() {
        Bound.of("26 fall", "NONE when there is none such, for others, or without a run()");
        PlateCity x = settledAs(100);
        Bound.between(0, 8, n -> x.fall(n, 0) != -1, "office");
        Bound.between(0, 3, n -> x.fall(0, n) != -1, "what");
        Bound.due(-1, x.fall(9, 4), "both");
        PlateCity y = Bound.row(1, 0, 1);
        for (int what = 0; what < 4; what++) {
            Bound.due(-1, y.fall(0, what), "without a run");
        }
        y.run(0, 1);
        for (int what = 0; what < 4; what++) {
            Bound.due(0, y.fall(0, what), "nothing is owed");
        }
    }

    private static void fallOwes() {
        Bound.of("26 fall", "each OFFICE owes HOUSES what is SETTLED, others by DEALS");
        PlateCity x = settledAs(100, 200, 300);
        for (int office = 0; office < 3; office++) {
            fallsTo(x, office, 100 * (office + 1), 0, 1, 0);
        }
        fallsTo(x, 8, 0, 0, 0, 0);
        x.deal(8, 0, 1000);
        x.deal(8, 1, 500);
        x.deal(8, 2, 1);
        x.deal(8, 3, 1000);
        fallsTo(x, 8, 100 + 100, 0, 1, 0);
        x.coin(8, 200);
        fallsTo(x, 8, 200, 200, 0, 0);
        fallsTo(x, 0, 100, 100, 0, 100);
        fallsTo(x, 1, 200, 100, 1, 100);
        fallsTo(x, 2, 300, 0, 1, 0);
    }

    private static void fallOfDeals() {
        Bound.of("26 fall", "it owes that one floor(those all times them / 1000)");
        PlateCity x = settledAs(1, 999, 1000, 1001, 1999);
        int[] settled = {1, 999, 1000, 1001, 1999};
        for (int of = 0; of < 5; of++) {
            for (int part : new int[] {0, 1, 500, 999, 1000}) {
                x.deal(8, of, part);
                Bound.due(settled[of] * part / 1000, x.fall(8, 0), part + " thousandths of " + settled[of]);
            }
            x.deal(8, of, 0);
        }
        Bound.of("26 fall", "of what another one pays for CLAIMS (those all): not of what it pays by DEALS, nor of"
            + " each");
        PlateCity y = Bound.row(2, 0, 1500);
        Bound.tell(y, 0, "cover all;pay sum;");
        for (int i = 0; i < 3; i++) {
            y.policy(0, 0, 3);
        }
        y.run(0, 5);
        y.deal(1, 0, 500);
        y.deal(2, 1, 1000);
        Bound.due(4, y.fall(1, 0), "floor(9 / 2), not 3 times floor(3 / 2)");
        Bound.due(0, y.fall(2, 0), "nothing of a deal");
    }

    private static void fallPays() {
        Bound.of("26 fall", "if that is less than all it owes: FALLEN, those that pay less than they owe");
        PlateCity x = settledAs(100);
        int[] coins = {0, 1, 99, 100, 101, 100000000};
        for (int coin : coins) {
            x.coin(0, coin);
            fallsTo(x, 0, 100, Math.min(coin, 100), coin < 100 ? 1 : 0, Math.min(coin, 100));
        }
        Bound.of("26 fall", "what it has is COIN and what others paid it in the ROUND before");
        PlateCity y = settledAs(100);
        y.deal(1, 0, 600);
        y.deal(2, 0, 300);
        y.coin(1, 60);
        y.coin(2, 29);
        y.coin(0, 10);
        fallsTo(y, 0, 100, 99, 1, 99);
        y.coin(0, 11);
        fallsTo(y, 0, 100, 100, 0, 100);
        fallsTo(y, 1, 60, 60, 0, 0);
        fallsTo(y, 2, 30, 29, 1, 0);
        Bound.due(2, y.rounds(), "the second round, with the 29, changes nothing");
    }

    private static void fallFloors() {
        Bound.of("26 fall", "it pays to each (HOUSES as one) floor(what is owed times what it has / all it owes)");
        PlateCity x = settledAs(100, 50, 30);
        x.deal(0, 1, 1000);
        x.deal(0, 2, 1000);
        x.coin(0, 100);
        // Of 180 it has 100: 100 to houses is 55.5, 50 to office 1 is 27.7, 30 to office 2 is 16.6.
        fallsTo(x, 0, 180, 55 + 27 + 16, 1, 55);
        fallsTo(x, 1, 50, 27, 1, 27);
        fallsTo(x, 2, 30, 16, 1, 16);
        x.coin(0, 179);
        fallsTo(x, 0, 180, 99 + 49 + 29, 1, 99);
        x.coin(0, 180);
        fallsTo(x, 0, 180, 180, 0, 100);
        x.coin(0, 1);
        fallsTo(x, 0, 180, 0, 1, 0);
        PlateCity y = Bound.row(2, 0, 1500);
        Bound.tell(y, 0, "cover all;pay sum;");
        y.policy(0, 0, 33);
        y.policy(0, 0, 33);
        y.policy(1, 0, 33);
        y.run(0, 14);
        y.coin(0, 50);
        fallsTo(y, 0, 99, 50, 1, 50);
    }

    private static void fallAsNow() {
        Bound.of("26 fall", "(COIN, DEALS as now)");
        PlateCity x = settledAs(100);
        fallsTo(x, 0, 100, 0, 1, 0);
        x.coin(0, 40);
        fallsTo(x, 0, 100, 40, 1, 40);
        x.deal(1, 0, 500);
        fallsTo(x, 1, 50, 0, 1, 0);
        x.coin(1, 50);
        fallsTo(x, 0, 100, 90, 1, 90);
        x.deal(1, 0, 0);
        fallsTo(x, 0, 100, 40, 1, 40);
        fallsTo(x, 1, 0, 0, 0, 0);
        x.coin(0, 0);
        fallsTo(x, 0, 100, 0, 1, 0);
    }

    private static void roundsLeast() {
        Bound.of("27 rounds", "until nothing changes (the one in which nothing did counted); NONE without a run()");
        PlateCity x = Bound.row(1, 0, 0);
        Bound.due(-1, x.rounds(), "without a run");
        x.run(0, 1);
        Bound.due(1, x.rounds(), "nothing is owed");
        PlateCity y = settledAs(100);
        Bound.due(2, y.rounds(), "one falls in the first");
        y.coin(0, 99);
        Bound.due(2, y.rounds(), "one falls by 1 in the first");
        y.coin(0, 100);
        Bound.due(1, y.rounds(), "it can pay just what it owes");
        y.coin(0, 99);
        y.deal(1, 0, 10);
        Bound.due(3, y.rounds(), "one falls in the first, the other in the second");
        y.coin(1, 1);
        Bound.due(1, y.rounds(), "each can pay just what it owes");
    }

    private static void roundsChange() {
        Bound.of("27 rounds", "an office that can't pay lets others fall along, in rounds");
        PlateCity x = settledAs(100, 100, 100, 100, 100, 100, 100, 100, 100);
        // Office 8 bears all of 7's, 7 all of 6's, and so on; each but 8 has just what it needs beside that.
        for (int office = 1; office < OFFICES; office++) {
            x.deal(office, office - 1, 1000);
        }
        for (int office = 0; office < OFFICES; office++) {
            x.coin(office, office == 0 ? 0 : 100);
        }
        x.coin(8, 200);
        Bound.due(1, x.rounds(), "each can pay just what it owes");
        Bound.due(0, x.fall(0, 2), "the first one stands");
        x.coin(8, 199);
        Bound.due(10, x.rounds(), "one behind the other falls, then nothing changes");
        for (int office = 0; office < OFFICES; office++) {
            Bound.due(1, x.fall(office, 2), "fallen along");
        }
    }

    /** Who bears all of all others' claims, each of these the same: what each office pays after so many rounds. */
    private static long[] paidAfter(int rounds, long settled, int[] coins) {
        long[] pays = new long[OFFICES];
        Arrays.fill(pays, settled);
        for (int round = 0; round < rounds; round++) {
            long all = 0;
            for (long each : pays) {
                all += each;
            }
            long[] next = new long[OFFICES];
            for (int office = 0; office < OFFICES; office++) {
                long has = coins[office] + all - pays[office];
                next[office] = has < OFFICES * settled ? settled * has / (OFFICES * settled) : settled;
            }
            pays = next;
        }
        return pays;
    }

    private static int roundsOf(long settled, int[] coins) {
        int round = 1;
        while (!Arrays.equals(paidAfter(round - 1, settled, coins), paidAfter(round, settled, coins))) {
            round++;
        }
        return round;
    }

    /** Nine offices with eleven houses each, all lost whole, and each bearing all of what all others pay. */
    private static PlateCity allForAll() {
        PlateCity x = Bound.cityOf(11, 9);
        for (int office = 0; office < OFFICES; office++) {
            Bound.tell(x, office, "cover all;");
        }
        for (int cell = 0; cell < 99; cell++) {
            x.house(cell, 0, 0, 9999);
            x.policy(cell, cell % OFFICES, 99999);
        }
        x.hazard(0, 9);
        for (int bears = 0; bears < OFFICES; bears++) {
            for (int of = 0; of < OFFICES; of++) {
                x.deal(bears, of, bears == of ? 0 : 1000);
            }
        }
        x.run(50, 120);
        return x;
    }

    private static void roundsAtMost() {
        Bound.of("26 fall, 27 rounds", "100 ROUNDS at most");
        int[][] coins = {
            {14, 0, 47202, 47136, 47671, 22, 4, 32806, 27},
            {24, 16, 0, 0, 56, 0, 29, 13, 24},
            {15, 17, 0, 95437, 5, 11, 12, 14, 5},
            {1122, 9291, 88, 12866, 0, 16109, 7, 33514, 35}};
        int[] untold = {99, 100, 101, 107};
        long settled = 11 * 9999;
        PlateCity x = allForAll();
        Bound.due(settled, x.settled(8), "settled for each");
        for (int i = 0; i < coins.length; i++) {
            for (int office = 0; office < OFFICES; office++) {
                x.coin(office, coins[i][office]);
            }
            Bound.due(untold[i], roundsOf(settled, coins[i]), "rounds without that");
            Bound.due(Math.min(100, untold[i]), x.rounds(), "rounds");
            long[] pays = paidAfter(100, settled, coins[i]);
            for (int office = 0; office < OFFICES; office++) {
                Bound.due(pays[office], x.fall(office, 3), "what " + office + " pays to houses");
            }
        }
        Bound.no(Arrays.equals(paidAfter(100, settled, coins[3]), paidAfter(101, settled, coins[3])),
            "the same after one round more");
    }
}
