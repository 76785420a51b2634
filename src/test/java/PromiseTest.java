/** Each promise of the document by hand: ordinary calls, the edges that it names, and wrong ones. */
public final class PromiseTest {
    private static final int LEAST = Integer.MIN_VALUE;
    private static final int MOST = Integer.MAX_VALUE;

    private static int wrong = 0;
    private static String promise = "";

    private PromiseTest() { }

    public static void main(String[] args) {
        newObject();
        feed();
        end();
        city();
        house();
        plug();
        hazard();
        wind();
        coin();
        engine();
        deal();
        terms();
        fault();
        policy();
        annul();
        as();
        force();
        premium();
        helps();
        run();
        burnt();
        came();
        lost();
        claim();
        settled();
        fall();
        rounds();
        worst();
        place();
        plan();
        planned();
        all();
        System.out.println(wrong == 0 ? "all 32 promises hold" : wrong + " answers are not as due");
        if (wrong != 0) {
            System.exit(1);
        }
    }

    private static void due(long want, long got, String what) {
        if (want != got) {
            wrong++;
            System.out.println(promise + ": " + what + " is " + got + ", due is " + want);
        }
    }

    private static void yes(boolean got, String what) {
        due(1, got ? 1 : 0, what);
    }

    private static void no(boolean got, String what) {
        due(0, got ? 1 : 0, what);
    }

    /** Puts a text on the tape, in fives of four bytes, and cuts the tape behind it. */
    private static void tape(PlateCity x, String text) {
        for (int from = 0; from < text.length(); from += 20) {
            int[] five = new int[5];
            for (int i = 0; i < 20; i++) {
                int sign = from + i < text.length() ? text.charAt(from + i) : 32;
                five[i / 4] = five[i / 4] << 8 | sign;
            }
            x.feed(five[0], five[1], five[2], five[3], five[4]);
        }
        yes(x.end(text.length()), "the end of " + text);
    }

    private static int tell(PlateCity x, int office, String text) {
        tape(x, text);
        return x.terms(office);
    }

    private static PlateCity cityOf(int wide, int high) {
        PlateCity x = new PlateCity();
        yes(x.city(wide, high), "city");
        return x;
    }

    /** A city of one row, all houses of wood, each worth 1500: 100 for each minute burnt. */
    private static PlateCity row(int houses) {
        PlateCity x = cityOf(houses, 1);
        for (int cell = 0; cell < houses; cell++) {
            yes(x.house(cell, 0, 0, 1500), "house");
        }
        return x;
    }

    private static void newObject() {
        promise = "1 a new object";
        PlateCity x = new PlateCity();
        due(-1, PlateCity.NONE, "NONE");
        due(1, x.all(0), "cells");
        for (int what = 1; what <= 6; what++) {
            due(0, x.all(what), "all " + what);
        }
        due(-1, x.lost(), "lost");
        due(-1, x.came(0, 0), "came");
        due(-1, x.force(0), "force");
        no(x.end(1), "a byte on the tape");
        yes(x.house(0, 0, 0, 0), "a house in the one cell");
        no(x.house(1, 0, 0, 0), "a house in a second cell");
        due(1, x.run(0, 1), "run");
        due(0, x.fall(3, 0), "what an office owes");
    }

    private static void feed() {
        promise = "2 feed";
        PlateCity x = new PlateCity();
        due(20, x.feed(0x70617920, 0x313b2020, 0x20202020, 0x20202020, 0x20202020), "feed");
        due(40, x.feed(0x20202020, 0x20202020, 0x20202020, 0x20202020, 0x20202020), "feed");
        due(1, x.terms(0), "the bytes, the highest first, are terms");
        due(20, x.feed(0x20202020, 0x20202020, 0x20202020, 0x20202020, 0x0aff2020), "feed");
        due(-1, x.terms(0), "a byte of 255");
        due(17, x.fault(1), "its place");
        for (int i = 1; i <= 30; i++) {
            due(20 * i, x.feed(MOST, LEAST, -1, 0, 1), "feed");
        }
        due(-1, x.feed(0, 0, 0, 0, 0), "more than 600");
        due(-1, x.feed(0, 0, 0, 0, 0), "more than 600");
        yes(x.end(581), "end");
        due(-1, x.feed(0, 0, 0, 0, 0), "601");
        yes(x.end(580), "end");
        due(600, x.feed(0, 0, 0, 0, 0), "600");
    }

    private static void end() {
        promise = "3 end";
        PlateCity x = new PlateCity();
        yes(x.end(0), "end of an empty tape");
        no(x.end(1), "more than there are");
        no(x.end(-1), "below 0");
        x.feed(0x70617920, 0x313b7878, 0x78787878, 0x78787878, 0x78787878);
        no(x.end(21), "more than there are");
        no(x.end(-1), "below 0");
        no(x.end(LEAST), "far below 0");
        no(x.end(MOST), "far more");
        yes(x.end(20), "all");
        yes(x.end(6), "the first six");
        no(x.end(7), "these are gone");
        due(1, x.terms(0), "the first six bytes alone");
    }

    private static void city() {
        promise = "4 city";
        PlateCity x = new PlateCity();
        yes(x.city(12, 10), "the greatest");
        due(120, x.all(0), "cells");
        yes(x.city(1, 10), "ten rows");
        due(10, x.all(0), "cells");
        no(x.city(13, 1), "13 in a row");
        no(x.city(1, 11), "11 rows");
        no(x.city(0, 1), "none in a row");
        no(x.city(1, 0), "no row");
        no(x.city(-1, -1), "below 0");
        no(x.city(LEAST, MOST), "far off");
        due(10, x.all(0), "cells as before");
        cityTakes();
        cityTakesBack();
        cityLeaves();
        greatest();
    }

    private static void cityTakes() {
        PlateCity x = row(3);
        x.plug(1, true);
        x.engine(0, 0, 9, 9);
        x.wind(1, 2, 20);
        x.deal(1, 0, 1000);
        tell(x, 0, "cover all;");
        x.policy(0, 0, 5000);
        x.place(0);
        due(2, x.run(0, 5), "the first is put out, the wind was faster");
        due(300 + 300 + 100, x.plan(1, 0, 9, 9, 0, 5), "plan");
        yes(x.as(1), "as");
        yes(x.city(3, 1), "a new one");
        for (int what = 1; what <= 6; what++) {
            due(0, x.all(what), "all " + what + " is gone");
        }
        due(-1, x.lost(), "the run is gone");
        due(-1, x.rounds(), "the run is gone");
        due(-1, x.claim(2, 0), "the run is gone");
        due(-1, x.planned(0), "the plan is gone");
        for (int cell = 0; cell < 3; cell++) {
            yes(x.house(cell, 0, 0, 1500), "house");
        }
        due(1, tell(x, 0, "cover all;"), "acts begin anew");
        due(2, x.policy(0, 0, 5000), "acts begin anew");
        due(2, x.all(4), "known is the last one");
        due(1, x.run(0, 2), "no wind");
        due(3, x.burnt(1, 1), "heat without wind");
        due(0, x.fall(1, 0), "deals are gone");
        due(1, x.place(0), "told anew");
    }

    /** What was told of a wind, a deal or a void act does not show under the new city's own ones. */
    private static void cityTakesBack() {
        PlateCity x = cityOf(1, 3);
        x.wind(1, 4, 20);
        x.wind(3, 4, 9);
        x.deal(0, 1, 1000);
        x.policy(0, 0, 1);
        x.city(1, 3);
        for (int cell = 0; cell < 3; cell++) {
            x.house(cell, 0, 0, 1500);
        }
        x.run(1, 3);
        due(2 - 2 + 3 - 2 + 4, x.burnt(2, 1), "heat without wind");
        due(2 - 2 + 3 - 2 + 4, x.burnt(0, 1), "heat without wind");
        x.wind(1, 4, 1);
        x.run(1, 3);
        due(3 - 2 + 4 - 2 + 5, x.burnt(2, 1), "the new wind goes on");
        due(1, x.policy(1, 3, 500), "policy");
        due(2, x.annul(1), "void");
        x.city(1, 3);
        x.house(1, 0, 0, 1500);
        due(1, x.policy(1, 1, 500), "policy");
        due(2, x.helps(1), "not void");
        tell(x, 1, "cover all;");
        x.run(1, 5);
        due(500, x.settled(1), "settled");
        due(0, x.fall(0, 0), "no deal");
    }

    /** Every cell of the greatest city has a house, and all burn. */
    private static void greatest() {
        PlateCity x = cityOf(12, 10);
        for (int cell = 0; cell < 120; cell++) {
            yes(x.house(cell, cell % 4, cell % 6, 100), "house");
        }
        for (int trade = 0; trade < 6; trade++) {
            x.hazard(trade, 9);
        }
        tell(x, 8, "help all;cover all;");
        x.plug(119, true);
        x.policy(119, 8, 100);
        for (int i = 0; i < 9; i++) {
            x.engine(0, 119 - i, 9, 9);
        }
        due(256, x.helps(119), "helps");
        due(120, x.run(119, 120), "all burn");
        due(12000, x.lost(), "all is lost");
        due(100, x.settled(8), "settled");
        due(1, x.worst(8, 60) >= 0 ? 1 : 0, "worst");
        x.place(119);
        due(1, x.plan(1, 8, 9, 9, 118, 60) > 0 ? 1 : 0, "plan");
        due(120, x.all(1), "houses");
        due(-1, x.burnt(120, 0), "no cell");
        due(-1, x.place(120), "no cell");
    }

    private static void cityLeaves() {
        PlateCity x = row(2);
        x.hazard(0, 9);
        x.coin(0, 70);
        tape(x, "pay 1;");
        yes(x.city(2, 1), "a new one");
        due(1, x.terms(0), "the tape is left");
        x.house(0, 0, 0, 1500);
        x.house(1, 0, 0, 1500);
        tell(x, 0, "cover all;");
        x.policy(0, 0, 5000);
        due(1, x.run(0, 1), "run");
        due(11, x.burnt(1, 1), "the hazard stays");
        due(100, x.fall(0, 0), "owed");
        due(70, x.fall(0, 1), "the coin stays");
        due(2, x.all(0), "cells");
        no(x.city(0, 5), "can't be");
        due(100, x.lost(), "nothing went with that");
    }

    private static void house() {
        promise = "5 house";
        PlateCity x = cityOf(2, 2);
        yes(x.house(3, 3, 5, 9999), "the greatest");
        yes(x.house(0, 0, 0, 0), "the least");
        due(2, x.all(1), "houses");
        yes(x.house(0, 1, 0, 2500), "in place of one");
        due(2, x.all(1), "houses");
        no(x.house(4, 0, 0, 0), "no cell");
        no(x.house(-1, 0, 0, 0), "no cell");
        no(x.house(1, 4, 0, 0), "no wall");
        no(x.house(1, -1, 0, 0), "no wall");
        no(x.house(1, 0, 6, 0), "no trade");
        no(x.house(1, 0, -1, 0), "no trade");
        no(x.house(1, 0, 0, 10000), "no worth");
        no(x.house(1, 0, 0, -1), "no worth");
        no(x.house(MOST, LEAST, MOST, LEAST), "far off");
        due(2, x.all(1), "houses");
        due(1, x.run(0, 25), "25 minutes of the new wall");
        due(2, x.burnt(0, 0), "down");
        due(2500, x.burnt(0, 4), "the new worth");
        yes(x.house(1, 0, 0, 1), "later");
        due(-1, x.burnt(1, 0), "no house then");
        yes(x.house(0, 0, 0, 1), "later");
        due(2500, x.burnt(0, 4), "as then");
    }

    private static void plug() {
        promise = "6 plug";
        PlateCity x = cityOf(2, 2);
        yes(x.plug(3, true), "plug");
        yes(x.plug(3, true), "plug again");
        due(1, x.all(6), "plugs");
        yes(x.plug(0, false), "none there");
        yes(x.plug(3, false), "not");
        due(0, x.all(6), "plugs");
        no(x.plug(4, true), "no cell");
        no(x.plug(-1, true), "no cell");
        no(x.plug(LEAST, false), "no cell");
        no(x.plug(MOST, false), "no cell");
        due(0, x.all(6), "plugs");
    }

    private static void hazard() {
        promise = "7 hazard";
        PlateCity x = cityOf(2, 1);
        x.house(0, 0, 5, 0);
        x.house(1, 0, 4, 0);
        yes(x.hazard(5, 9), "hazard");
        no(x.hazard(6, 0), "no trade");
        no(x.hazard(-1, 0), "no trade");
        no(x.hazard(5, 10), "too great");
        no(x.hazard(5, -1), "too little");
        x.run(0, 1);
        due(11, x.burnt(1, 1), "of the one that burns");
        x.run(1, 1);
        due(2, x.burnt(0, 1), "not of the one that is warmed");
        yes(x.hazard(5, 0), "none");
        x.run(0, 1);
        due(2, x.burnt(1, 1), "without");
    }

    private static void wind() {
        promise = "8 wind";
        PlateCity x = cityOf(3, 3);
        for (int cell = 0; cell < 9; cell++) {
            x.house(cell, 3, 0, 0);
        }
        int[] to = {1, 2, 5, 8, 7, 6, 3, 0};
        for (int way = 0; way < 8; way++) {
            yes(x.wind(1, way, 20), "wind");
            x.run(4, 2);
            for (int cell = 0; cell < 9; cell++) {
                due(cell == to[way] ? 43 : cell == 4 ? 0 : 3, x.burnt(cell, 1), "heat of " + cell + ", way " + way);
            }
        }
        yes(x.wind(1, 0, 0), "still");
        yes(x.wind(3, 2, 20), "from 3 on");
        x.run(4, 2);
        due(3, x.burnt(5, 1), "ahead of it");
        x.run(4, 4);
        due(3 - 2 + 24 - 2 + 25, x.burnt(5, 1), "in it and behind it");
        yes(x.wind(4, 6, 1), "from 4 on");
        x.run(4, 4);
        due(3 - 2 + 24 - 2 + 5, x.burnt(5, 1), "another one");
        due(3 - 2 + 4 - 2 + 6, x.burnt(3, 1), "another one");
        yes(x.wind(3, 6, 7), "told again");
        x.run(4, 4);
        due(3 - 2 + 11 - 2 + 6, x.burnt(3, 1), "told again, 4 as before");
        wrongWinds(x);
    }

    /** Houses of the slowest wall in a row, one lit by the other: the fifth burns at 120 and warms the sixth. */
    private static PlateCity slowRow() {
        PlateCity x = cityOf(7, 1);
        for (int cell = 0; cell < 7; cell++) {
            x.house(cell, 3, 0, 0);
        }
        return x;
    }

    private static void lastMinute() {
        PlateCity x = slowRow();
        x.run(0, 120);
        due(1, x.burnt(4, 0), "the fifth burns");
        due(-1, x.burnt(5, 5), "the sixth does not yet");
        int still = x.burnt(5, 1);
        x.wind(119, 2, 20);
        x.run(0, 120);
        due(still + 40, x.burnt(5, 1), "of 119 and on to 120");
        x.wind(120, 2, 3);
        x.run(0, 120);
        due(still + 23, x.burnt(5, 1), "of 120 alone");
        x.wind(119, 2, 0);
        x.run(0, 120);
        due(still + 3, x.burnt(5, 1), "of 120 alone");
    }

    private static void wrongWinds(PlateCity x) {
        yes(x.wind(120, 7, 20), "the last minute");
        lastMinute();
        no(x.wind(0, 0, 0), "no minute");
        no(x.wind(121, 0, 0), "no minute");
        no(x.wind(1, 8, 0), "no way");
        no(x.wind(1, -1, 0), "no way");
        no(x.wind(1, 0, 21), "too strong");
        no(x.wind(1, 0, -1), "below 0");
        no(x.wind(LEAST, MOST, LEAST), "far off");
    }

    private static void coin() {
        promise = "9 coin";
        PlateCity x = row(1);
        tell(x, 8, "cover all;");
        x.policy(0, 8, 99999);
        x.run(0, 15);
        yes(x.coin(8, 100000000), "the greatest");
        due(1500, x.fall(8, 1), "pays");
        yes(x.coin(8, 0), "the least");
        due(0, x.fall(8, 1), "pays");
        yes(x.coin(8, 7), "coin");
        no(x.coin(8, 100000001), "too much");
        no(x.coin(8, -1), "below 0");
        no(x.coin(9, 1), "no office");
        no(x.coin(-1, 1), "no office");
        no(x.coin(MOST, LEAST), "far off");
        due(7, x.fall(8, 1), "pays");
    }

    private static void engine() {
        promise = "10 engine";
        PlateCity x = cityOf(2, 1);
        due(-1, x.engine(9, 0, 1, 1), "no office");
        due(-1, x.engine(-1, 0, 1, 1), "no office");
        due(-1, x.engine(0, 2, 1, 1), "no cell");
        due(-1, x.engine(0, -1, 1, 1), "no cell");
        due(-1, x.engine(0, 0, 0, 1), "goes");
        due(-1, x.engine(0, 0, 10, 1), "goes");
        due(-1, x.engine(0, 0, 1, 0), "pours");
        due(-1, x.engine(0, 0, 1, 10), "pours");
        due(-1, x.engine(LEAST, MOST, LEAST, MOST), "far off");
        due(0, x.all(2), "engines");
        for (int i = 0; i < 12; i++) {
            due(i, x.engine(i % 9, i % 2, 1 + i % 9, 9 - i % 9), "engine");
        }
        due(-1, x.engine(0, 0, 1, 1), "the 13th");
        due(12, x.all(2), "engines");
    }

    private static void deal() {
        promise = "11 deal";
        PlateCity x = row(1);
        tell(x, 0, "cover all;");
        x.policy(0, 0, 99999);
        x.run(0, 5);
        yes(x.deal(1, 0, 333), "deal");
        due(166, x.fall(1, 0), "floor(500 * 333 / 1000)");
        yes(x.deal(1, 0, 1000), "all");
        due(500, x.fall(1, 0), "all");
        yes(x.deal(1, 0, 0), "none");
        due(0, x.fall(1, 0), "none");
        yes(x.deal(8, 0, 1), "another");
        no(x.deal(0, 0, 1), "the same office");
        no(x.deal(9, 0, 1), "no office");
        no(x.deal(0, 9, 1), "no office");
        no(x.deal(-1, 0, 1), "no office");
        no(x.deal(0, -1, 1), "no office");
        no(x.deal(1, 0, 1001), "more than all");
        no(x.deal(1, 0, -1), "below 0");
        no(x.deal(MOST, LEAST, MOST), "far off");
        due(0, x.fall(1, 0), "none");
        due(0, x.fall(8, 0), "floor(500 / 1000)");
    }

    private static void terms() {
        promise = "12 terms";
        PlateCity x = row(1);
        due(1, tell(x, 0, "cover all;"), "terms");
        due(20, x.feed(0, 0, 0, 0, 0), "the tape went");
        due(-1, x.terms(0), "a fault");
        due(20, x.feed(0, 0, 0, 0, 0), "the tape went");
        due(-2, x.terms(9), "no office");
        due(20, x.feed(0, 0, 0, 0, 0), "the tape went");
        due(-2, x.terms(-1), "no office");
        due(-2, x.terms(LEAST), "no office");
        due(-2, x.terms(MOST), "no office");
        due(2, x.terms(0), "an empty text has no fault");
        due(0, x.force(0), "no statement");
        due(3, tell(x, 8, "\n beside\nfirst ;beside after;\n"), "terms");
        due(2, x.force(8), "statements");
        for (int i = 4; i <= 200; i++) {
            due(i, x.policy(0, 0, 1), "policy");
        }
        due(0, x.fault(0), "no fault");
        tape(x, "nothing");
        due(-2, x.terms(0), "there are 200");
        due(0, x.fault(0), "no text was read");
        no(x.end(1), "the tape went");
        due(200, x.all(3), "acts");
    }

    private static void faulty(String text, int kind, int place) {
        PlateCity x = new PlateCity();
        due(kind == 0 ? 1 : -1, tell(x, 0, text), "terms: " + text);
        due(kind, x.fault(0), "fault of: " + text);
        due(place, x.fault(1), "place in: " + text);
    }

    private static void fault() {
        promise = "13 fault";
        PlateCity x = new PlateCity();
        due(0, x.fault(0), "ahead of any");
        due(-1, x.fault(1), "ahead of any");
        due(-1, x.fault(2), "another what");
        due(-1, x.fault(-1), "another what");
        tell(x, 0, " x");
        x.terms(9);
        due(1, x.fault(0), "of the latest that read a text");
        due(1, x.fault(1), "of the latest that read a text");
        x.terms(0);
        due(0, x.fault(0), "without");
        due(-1, x.fault(1), "without");
        faultyWords();
        faultyNumbers();
        faultyOpen();
        faultyMany();
    }

    private static void faultyWords() {
        faulty("", 0, -1);
        faulty(" \n ", 0, -1);
        faulty(";", 1, 0);
        faulty("cover all;;", 1, 10);
        faulty("cover all", 1, 9);
        faulty("cover all  ", 1, 11);
        faulty("cov", 1, 0);
        faulty("coverall;", 1, 0);
        faulty("coverz all;", 1, 0);
        faulty("covera all;", 1, 0);
        faulty("covers all;", 1, 0);
        faulty("Cover all;", 1, 0);
        faulty("cover\tall;", 1, 5);
        faulty("cover\nall\n;", 0, -1);
        faulty("cover all\r;", 1, 9);
        faulty("cover al;", 1, 6);
        faulty("cover all all;", 1, 10);
        faulty("cover wall;", 1, 10);
        faulty("cover wall<;", 1, 11);
        faulty("cover wall<1<2;", 1, 12);
        faulty("cover[all]and[all];", 0, -1);
        faulty("cover (all);", 1, 7);
        faulty("cover [1];", 1, 8);
        faulty("cover [all;", 1, 10);
        faulty("cover first;", 1, 6);
        faulty("pay all;", 1, 4);
        faulty("pay;", 1, 3);
        faulty("pay (1;", 1, 6);
        faulty("pay -1;", 1, 4);
        faulty("pay 1+;", 1, 6);
        faulty("pay min(1,2,3);", 1, 11);
        faulty("pay max(1,2);premium min ( 1 , 2 ) ;", 0, -1);
        faulty("pay 1 < 2;", 1, 6);
        faulty("beside;", 1, 6);
        faulty("beside first after;", 1, 13);
        faulty("help not;", 1, 8);
        faulty("help all and;", 1, 12);
        faulty("help all \u00e9;", 1, 9);
        faulty("pay 1;x", 1, 6);
    }

    private static void faultyNumbers() {
        faulty("pay 99999;", 0, -1);
        faulty("pay 00001;", 0, -1);
        faulty("pay 123456;", 1, 9);
        faulty("pay 1234567890;", 1, 9);
        faulty("pay 000001;", 1, 9);
        faulty("pay 1 2;", 1, 6);
        faulty("pay 1 1234567;", 1, 6);
        faulty("cover all 1;", 1, 10);
        faulty("cover office 8;", 0, -1);
        faulty("cover office 00008;", 0, -1);
        faulty("cover office 9;", 2, 13);
        faulty("cover office 10;", 2, 13);
        faulty("cover office 99999", 2, 13);
        faulty("cover office 123456;", 1, 18);
        faulty("cover office;", 1, 12);
        faulty("cover office wall;", 1, 13);
        faulty("cover office 1", 1, 14);
        faulty("pay3;", 1, 3);
        faulty("cover office3;", 1, 12);
        faulty("cover wall=1and all;", 1, 12);
        faulty("cover wall=1 and all;", 0, -1);
    }

    private static void faultyOpen() {
        faulty("pay ((((((1))))));", 0, -1);
        faulty("pay (((((((1)))))));", 3, 10);
        faulty("pay ((((((min(1,2)))))));", 3, 13);
        faulty("pay (((((min((1),2))))));", 3, 13);
        faulty("pay (((((min(1,2))))));", 0, -1);
        faulty("pay ((((((1((", 1, 11);
        faulty("help not not not not not not all;", 0, -1);
        faulty("help not not not not not not not all;", 3, 29);
        faulty("help not not not not not not (1)=1;", 3, 29);
        faulty("help not not not not not (1)=(1);", 0, -1);
        faulty("help not not not not not not [all];", 3, 29);
        faulty("help [not [not [not all and not all]]];", 0, -1);
        faulty("help [not [not [not (1)=1]]];", 3, 20);
        faulty("help [[[[[[all]]]]]] or [[[[[[all]]]]]];", 0, -1);
        faulty("help [[[[[[[all]]]]]]];", 3, 11);
        faulty("help not all and not all and not all and not all and not all and not all and not all;", 0, -1);
        faulty("help not 1=1 and not 1=1 and not 1=1 and not 1=1 and not 1=1 and not 1=1 and ((((((1))))))=1;", 0, -1);
    }

    private static void faultyMany() {
        StringBuilder many = new StringBuilder();
        for (int i = 0; i < 24; i++) {
            many.append("pay 1;");
        }
        faulty(many.toString(), 0, -1);
        faulty(many + " \n", 0, -1);
        faulty(many + " pay 1;", 4, 145);
        faulty(many + "?", 4, 144);
        faulty(many + ";", 4, 144);
        faulty("x" + many + "x", 1, 0);
        faulty(many.substring(0, 138) + "pay 1x", 1, 143);
    }

    private static void policy() {
        promise = "14 policy";
        PlateCity x = cityOf(2, 1);
        due(-1, x.policy(0, 0, 1), "no house");
        x.house(0, 0, 0, 0);
        due(1, x.policy(0, 0, 1), "the least sum");
        due(2, x.policy(0, 8, 99999), "the greatest sum");
        due(3, x.policy(0, 0, 1), "a second one of an office");
        due(-1, x.policy(1, 0, 1), "no house");
        due(-1, x.policy(2, 0, 1), "no cell");
        due(-1, x.policy(-1, 0, 1), "no cell");
        due(-1, x.policy(0, 9, 1), "no office");
        due(-1, x.policy(0, -1, 1), "no office");
        due(-1, x.policy(0, 0, 0), "no sum");
        due(-1, x.policy(0, 0, 100000), "no sum");
        due(-1, x.policy(MOST, LEAST, MOST), "far off");
        for (int i = 4; i <= 200; i++) {
            due(i, x.policy(0, 0, 1), "policy");
        }
        due(-1, x.policy(0, 0, 1), "there are 200");
        due(200, x.all(3), "acts");
    }

    private static void annul() {
        promise = "15 annul";
        PlateCity x = row(1);
        due(-1, x.annul(1), "none such");
        x.policy(0, 3, 1);
        tell(x, 4, "help all;");
        tell(x, 4, "help all;help all;");
        due(24, x.helps(0), "helps");
        due(4, x.annul(1), "a policy");
        due(16, x.helps(0), "helps");
        due(5, x.annul(3), "terms");
        due(1, x.force(4), "those before are back");
        due(-1, x.annul(1), "it is void");
        due(-1, x.annul(4), "it tells so");
        due(-1, x.annul(0), "none such");
        due(-1, x.annul(6), "none such");
        due(-1, x.annul(-1), "none such");
        due(-1, x.annul(LEAST), "none such");
        due(-1, x.annul(MOST), "none such");
        due(6, x.annul(2), "all terms");
        due(-1, x.force(4), "without any");
        due(0, x.helps(0), "helps");
        x.as(0);
        for (int i = 7; i <= 200; i++) {
            due(i, x.policy(0, 0, 1), "policy");
        }
        due(-1, x.annul(7), "there are 200");
    }

    private static void as() {
        promise = "16 as";
        PlateCity x = row(1);
        no(x.as(1), "none such");
        yes(x.as(0), "none");
        yes(x.as(-1), "always the last");
        no(x.as(-2), "none such");
        no(x.as(LEAST), "none such");
        no(x.as(MOST), "none such");
        x.policy(0, 0, 1);
        x.policy(0, 1, 1);
        x.annul(1);
        tell(x, 2, "help all;");
        int[] helps = {0, 1, 3, 2, 6};
        for (int act = 0; act <= 4; act++) {
            yes(x.as(act), "as");
            due(helps[act], x.helps(0), "helps as known at " + act);
            due(act, x.all(4), "known");
            due(act < 4 ? -1 : 1, x.force(2), "force as known at " + act);
            due(act == 1 || act == 2 ? 0 : -1, x.premium(1), "premium as known at " + act);
        }
        no(x.as(5), "none such");
        x.policy(0, 8, 1);
        due(4, x.all(4), "known stays");
        due(6, x.helps(0), "helps stays");
        yes(x.as(-1), "always the last");
        due(5, x.all(4), "known");
        due(262, x.helps(0), "helps");
        x.policy(0, 7, 1);
        due(390, x.helps(0), "always the last");
        x.as(2);
        due(7, x.annul(2), "acts go on behind the last");
        due(3, x.helps(0), "not void by then");
    }

    private static void force() {
        promise = "17 force";
        PlateCity x = new PlateCity();
        due(-1, x.force(0), "without any");
        due(-1, x.force(9), "no office");
        due(-1, x.force(-1), "no office");
        due(-1, x.force(MOST), "no office");
        tell(x, 0, "cover all;pay 1;pay 2;beside first;");
        tell(x, 8, "cover all;");
        due(4, x.force(0), "force");
        due(1, x.force(8), "force");
        tell(x, 0, "pay;");
        due(4, x.force(0), "a fault changes nothing");
        tell(x, 0, "help all;help all;");
        due(2, x.force(0), "in place of those before");
        x.as(1);
        due(4, x.force(0), "as known");
        due(-1, x.force(8), "as known");
    }

    private static void worthOf(int want, String sum) {
        PlateCity x = cityOf(3, 1);
        x.house(0, 3, 5, 9999);
        x.house(1, 2, 4, 777);
        x.house(2, 1, 1, 1);
        x.policy(1, 3, 5);
        x.policy(0, 3, 5);
        tell(x, 0, "premium " + sum + ";");
        due(4, x.policy(1, 0, 4321), "policy");
        due(want, x.premium(4), "premium " + sum);
    }

    private static void premium() {
        promise = "18 premium";
        worthOf(2, "wall");
        worthOf(4, "trade");
        worthOf(777, "worth");
        worthOf(4321, "sum");
        worthOf(0, "loss");
        worthOf(1, "others");
        worthOf(2, "near");
        worthOf(99999, "99999");
        worthOf(7, "1+2*3");
        worthOf(9, "(1+2)*3");
        worthOf(5, "10-3-2");
        worthOf(4, "24/3/2");
        worthOf(6, "9/3*2");
        worthOf(0, "1/0");
        worthOf(0, "1-2");
        worthOf(1, "(1-4)/2+3");
        worthOf(2, "(1-4)/(0-2)+1");
        worthOf(3, "min(3,4)");
        worthOf(4, "max(3,4)");
        worthOf(3, "max(min(3,4),min(9,1+1))");
        worthOf(1000000000, "99999*99999");
        worthOf(1000000000, "40000*50000");
        worthOf(1, "99999*99999+99999-99999/99999*(50000*20000-1)");
        worthOf(1000000000, "0-(0-99999*99999)-0+1");
        worthOf(999999999, "0-(0-99999*99999)-1");
        worthOf(999999999, "99999*99999+5-1");
        worthOf(1, "0-99999*99999-99999+99999*99999+1");
        worthOf(5, "4;premium 5");
        worthOf(0, "5;premium 0");
        PlateCity x = row(1);
        tell(x, 0, "premium sum;");
        x.policy(0, 0, 10);
        x.policy(0, 1, 20);
        due(10, x.premium(2), "premium");
        due(0, x.premium(3), "without terms");
        due(-1, x.premium(1), "no policy");
        due(-1, x.premium(0), "none such");
        due(-1, x.premium(4), "none such");
        due(-1, x.premium(-1), "none such");
        due(-1, x.premium(MOST), "none such");
        x.as(1);
        due(-1, x.premium(2), "not known");
        x.as(-1);
        x.annul(2);
        due(-1, x.premium(2), "void");
        tell(x, 1, "cover all;");
        due(0, x.premium(3), "without one");
        tell(x, 1, "premium others*100+worth;");
        due(1500, x.premium(3), "the other one is void");
        x.house(0, 0, 0, 30);
        due(30, x.premium(3), "of the house that is there now");
    }

    private static void helping(boolean want, String test) {
        PlateCity x = cityOf(3, 1);
        x.house(1, 2, 4, 777);
        x.house(2, 1, 1, 1);
        x.policy(1, 3, 5);
        x.policy(2, 4, 5);
        x.policy(1, 3, 7);
        tell(x, 0, "help " + test + ";");
        due(want ? 9 : 8, x.helps(1), "help " + test);
    }

    private static void helps() {
        promise = "19 helps";
        helping(true, "all");
        helping(false, "not all");
        helping(true, "not not all");
        helping(true, "office 3");
        helping(false, "office 4");
        helping(true, "sum = 0");
        helping(true, "loss = 0");
        helping(true, "others = 2");
        helping(true, "near = 1");
        helping(true, "wall = 2 and trade = 4 and worth = 777");
        helping(false, "wall < 2");
        helping(false, "wall > 2");
        helping(true, "wall > 1");
        helping(true, "wall < 3");
        helping(true, "all or all and not all");
        helping(false, "[all or all] and not all");
        helping(true, "not 1 = 2");
        helping(false, "not office 3 or office 4");
        helping(true, "not [office 3 and office 4]");
        helping(true, "not all; help all");
        helping(true, "all; help not all");
        helping(false, "not all; cover all; void all");
        PlateCity x = row(2);
        due(0, x.helps(0), "none");
        x.policy(0, 8, 1);
        due(256, x.helps(0), "its own plate");
        due(0, x.helps(1), "none");
        due(-1, x.helps(2), "no house");
        due(-1, x.helps(-1), "no house");
        due(-1, x.helps(MOST), "no house");
        due(-1, cityOf(1, 1).helps(0), "no house");
    }

    private static void run() {
        promise = "20 run";
        PlateCity x = row(3);
        due(1, x.run(1, 9), "heat 37");
        due(3, x.run(1, 10), "heat 44");
        due(3, x.run(1, 15), "one is down");
        due(3, x.run(1, 120), "all are down");
        due(-1, x.run(1, 121), "minutes");
        due(-1, x.run(1, 0), "minutes");
        due(-1, x.run(1, LEAST), "minutes");
        due(-1, x.run(3, 1), "no house");
        due(-1, x.run(-1, 1), "no house");
        due(-1, x.run(MOST, MOST), "far off");
        due(4500, x.lost(), "the latest that was not NONE");
        due(-1, cityOf(1, 1).run(0, 1), "no house");
        // An engine of office 2 comes for its own plate, as known.
        x.policy(1, 2, 1);
        x.engine(2, 1, 1, 9);
        x.plug(1, true);
        due(0, x.run(1, 3), "put out");
        x.as(0);
        due(1, x.run(1, 3), "no plate as known");
        x.as(-1);
        due(1, x.run(0, 3), "no plate there");
    }

    private static void burnt() {
        promise = "21 burnt";
        PlateCity x = row(2);
        due(-1, x.burnt(0, 0), "without a run");
        x.run(0, 10);
        int[][] want = {{1, 0, 9, 10, 1000, 0}, {1, 44, 1, 0, 0, 10}};
        for (int what = 0; what < 6; what++) {
            due(want[0][what], x.burnt(0, what), "first, " + what);
            due(want[1][what], x.burnt(1, what), "second, " + what);
        }
        due(-1, x.burnt(0, 6), "others");
        due(-1, x.burnt(0, -1), "others");
        due(-1, x.burnt(2, 0), "no house");
        due(-1, x.burnt(-1, 0), "no house");
        due(-1, x.burnt(MOST, LEAST), "far off");
        int[] fuel = {15, 25, 40, 60};
        int[] resist = {40, 60, 100, 160};
        for (int wall = 0; wall < 4; wall++) {
            byWall(wall, fuel[wall], resist[wall]);
        }
        again();
    }

    private static void byWall(int wall, int fuel, int resist) {
        PlateCity x = cityOf(2, 1);
        x.house(0, wall, 0, 999);
        x.run(0, fuel - 1);
        due(1, x.burnt(0, 0), "burns still, wall " + wall);
        due(999 * (fuel - 1) / fuel, x.burnt(0, 4), "loss, wall " + wall);
        x.run(0, fuel);
        due(2, x.burnt(0, 0), "is down, wall " + wall);
        due(0, x.burnt(0, 2), "no fire, wall " + wall);
        due(999, x.burnt(0, 4), "all is lost, wall " + wall);
        x.run(0, fuel + 1);
        due(fuel, x.burnt(0, 3), "burns no more, wall " + wall);
        x.house(0, 3, 0, 0);
        x.house(1, wall, 0, 0);
        int heat = 0;
        int minute = 0;
        while (heat < resist) {
            minute++;
            heat = Math.max(0, heat - 2) + Math.min(9, minute + 1);
        }
        x.run(0, minute - 1);
        due(0, x.burnt(1, 0), "whole, wall " + wall);
        due(-1, x.burnt(1, 5), "never burnt, wall " + wall);
        x.run(0, minute);
        due(1, x.burnt(1, 0), "burns, wall " + wall);
        due(heat, x.burnt(1, 1), "heat, wall " + wall);
        due(minute, x.burnt(1, 5), "began, wall " + wall);
        due(1, x.burnt(1, 2), "fire 1, wall " + wall);
    }

    /** Two houses side by side; the first is put out in minute 3 and is warmed again by the second. */
    private static void again() {
        PlateCity x = row(2);
        x.wind(1, 2, 20);
        x.policy(0, 0, 1);
        x.engine(0, 0, 1, 9);
        x.plug(0, true);
        x.run(0, 3);
        due(0, x.burnt(0, 0), "put out");
        due(0, x.burnt(0, 1), "heat 0");
        due(0, x.burnt(0, 2), "fire 0");
        due(3, x.burnt(0, 3), "minutes");
        due(1, x.burnt(1, 0), "burns from minute 2 on");
        x.run(0, 4);
        due(3, x.burnt(0, 1), "warmed again");
        // Its heat: 3, 5, 8, 12, 17, 23, 30, 37, then 44 in minute 12: it burns again, and is put out at once.
        x.run(0, 11);
        due(37, x.burnt(0, 1), "not yet");
        x.run(0, 12);
        due(0, x.burnt(0, 1), "burnt again, put out again");
        due(3, x.burnt(0, 3), "minutes");
        x.run(0, 13);
        due(9, x.burnt(0, 1), "warmed again");
        x.city(2, 1);
        x.house(0, 0, 0, 1500);
        x.house(1, 3, 0, 6000);
        x.hazard(0, 9);
        x.policy(0, 0, 1);
        x.engine(0, 0, 1, 9);
        x.plug(0, true);
        x.wind(1, 2, 20);
        x.wind(3, 6, 20);
        due(0, x.run(0, 3), "put out ahead of the second");
        due(2 + 9 + 20 - 2 + 3 + 9 + 20 - 2 + 4 + 9, x.burnt(1, 1), "heat of the second");
        due(0, x.run(0, 30), "nothing burns");
        due(72 - 27 * 2, x.burnt(1, 1), "27 minutes more");
        due(0, x.burnt(0, 5), "began first");
    }

    private static void came() {
        promise = "22 came";
        PlateCity x = cityOf(5, 4);
        for (int cell : new int[] {0, 4, 12, 19}) {
            x.house(cell, 3, 0, 0);
            x.policy(cell, 1, 1);
        }
        due(-1, x.came(0, 0), "without a run");
        due(0, x.engine(1, 15, 2, 1), "engine");
        due(1, x.engine(2, 7, 9, 9), "engine of an office without a plate");
        x.run(4, 2);
        due(15, x.came(0, 0), "at home");
        due(-1, x.came(0, 1), "no aim yet");
        x.run(4, 3);
        due(17, x.came(0, 0), "columns first");
        due(4, x.came(0, 1), "aim");
        x.run(4, 4);
        due(19, x.came(0, 0), "columns first");
        x.run(4, 5);
        due(9, x.came(0, 0), "then rows");
        due(-1, x.came(0, 2), "not there");
        x.run(4, 6);
        due(4, x.came(0, 0), "there");
        due(6, x.came(0, 2), "poured first");
        due(7, x.burnt(4, 2), "half of one is nothing");
        x.run(4, 20);
        due(6, x.came(0, 2), "poured first");
        due(7, x.came(1, 0), "stays at home");
        due(-1, x.came(1, 1), "has no aim");
        due(-1, x.came(1, 2), "never poured");
        due(-1, x.came(2, 0), "no engine");
        due(-1, x.came(-1, 0), "no engine");
        due(-1, x.came(0, 3), "others");
        due(-1, x.came(0, -1), "others");
        due(-1, x.came(MOST, LEAST), "far off");
        x.engine(1, 0, 1, 1);
        due(-1, x.came(2, 0), "no engine then");
        nearest();
        plugs();
    }

    /** Three houses side by side burn; the engine under the middle goes to the nearest, then the least. */
    private static void nearest() {
        PlateCity x = cityOf(3, 3);
        for (int cell = 0; cell < 3; cell++) {
            x.house(cell, 0, 0, 0);
        }
        x.hazard(0, 9);
        x.wind(1, 2, 20);
        tell(x, 0, "help not office 1;");
        x.engine(0, 7, 1, 9);
        x.engine(0, 8, 1, 1);
        x.plug(4, true);
        due(2, x.run(1, 2), "the right one too");
        x.run(1, 3);
        due(1, x.came(0, 1), "the nearest");
        due(2, x.came(1, 1), "the nearest");
        due(4, x.came(0, 0), "under it");
        due(2, x.run(1, 4), "the left one too, the middle one is put out");
        due(1, x.came(0, 0), "there");
        x.policy(1, 1, 1);
        x.run(1, 4);
        due(2, x.came(0, 1), "not for office 1");
        x.policy(2, 1, 1);
        x.run(1, 4);
        due(0, x.came(0, 1), "as soon as it burns");
        x.annul(1);
        due(3, x.run(1, 5), "no help at all");
    }

    private static void plugs() {
        PlateCity x = row(1);
        yes(x.city(5, 4), "city");
        x.house(0, 3, 0, 0);
        x.policy(0, 0, 1);
        x.engine(0, 0, 9, 3);
        int[] off = {0, 5, 11, 15, 2, 3, 7};
        for (int cell : off) {
            x.plug(cell, true);
            x.run(0, 3);
            due(1, x.burnt(0, 2), "a plug in " + cell);
            x.plug(cell, false);
        }
        for (int cell : new int[] {4, 8, 12, 16, 19}) {
            x.plug(cell, true);
            x.run(0, 3);
            due(3, x.burnt(0, 2), "a plug too far off, in " + cell);
            x.plug(cell, false);
        }
        x.plug(3, true);
        x.engine(0, 1, 1, 1);
        due(0, x.run(0, 3), "both of them");
        due(0, x.came(1, 1), "the second's aim stays");
    }

    private static void lost() {
        promise = "23 lost";
        PlateCity x = row(3);
        due(-1, x.lost(), "without a run");
        x.run(0, 7);
        due(700, x.lost(), "of one");
        x.run(0, 12);
        due(1200 + 200, x.lost(), "of two");
        x.run(5, 1);
        due(1400, x.lost(), "the run that can't be changes nothing");
        x.worst(0, 3);
        due(1400, x.lost(), "worst changes nothing");
        x.run(0, 120);
        due(4500, x.lost(), "of all");
        x.house(0, 0, 0, 9999);
        due(4500, x.lost(), "as then");
    }

    private static int asks(String statements, int sum, int minutes) {
        PlateCity x = row(1);
        tell(x, 0, statements);
        x.policy(0, 1, 50);
        x.policy(0, 0, sum);
        x.run(0, minutes);
        return x.claim(3, 0);
    }

    private static void claim() {
        promise = "24 claim";
        due(500, asks("cover all;", 99999, 5), "all that is lost");
        due(400, asks("cover all;", 400, 5), "its sum");
        due(250, asks("cover all;pay loss/2;", 400, 5), "its pay");
        due(400, asks("cover all;pay loss*2;", 400, 5), "the lesser one");
        due(900, asks("cover all;pay loss;pay 900;", 99999, 5), "the last pay counts");
        due(0, asks("cover all;pay 0-5;", 400, 5), "0 at least");
        due(0, asks("pay 900;", 400, 5), "no cover");
        due(0, asks("", 400, 5), "no cover");
        due(0, asks("cover not all;", 400, 5), "no cover holds");
        due(400, asks("cover not all;cover all;", 400, 5), "some cover holds");
        due(0, asks("cover all;void all;void not all;", 400, 5), "some void holds");
        due(400, asks("cover all;void not all;", 400, 5), "no void holds");
        due(400, asks("cover loss=500 and sum=400 and others=1 and near=0 and office 1;", 400, 5), "facts");
        PlateCity x = row(2);
        due(-1, x.claim(1, 0), "without a run");
        tell(x, 0, "cover all;pay 900;");
        x.policy(0, 0, 1000);
        x.policy(1, 0, 1000);
        x.policy(0, 5, 1000);
        x.run(0, 5);
        due(900, x.claim(2, 0), "asks");
        due(500, x.claim(2, 1), "gets what is left");
        due(0, x.claim(3, 0), "no loss");
        due(0, x.claim(3, 1), "no loss");
        due(0, x.claim(4, 0), "no terms");
        due(0, x.claim(4, 1), "no terms");
        due(-1, x.claim(1, 0), "no policy");
        due(-1, x.claim(0, 0), "none such");
        due(-1, x.claim(5, 0), "none such");
        due(-1, x.claim(2, 2), "others");
        due(-1, x.claim(2, -1), "others");
        due(-1, x.claim(MOST, 0), "far off");
        due(-1, x.claim(LEAST, LEAST), "far off");
        x.policy(0, 0, 1);
        due(-1, x.claim(5, 0), "not known then");
        x.annul(2);
        due(900, x.claim(2, 0), "known then");
        tell(x, 0, "");
        due(900, x.claim(2, 0), "as known then");
        x.worst(0, 60);
        due(900, x.claim(2, 0), "worst changes nothing");
        x.run(0, 5);
        due(-1, x.claim(2, 0), "void now");
        x.as(2);
        x.run(0, 5);
        due(900, x.claim(2, 0), "as known at 2");
        due(-1, x.claim(3, 0), "not known at 2");
    }

    private static void settled() {
        promise = "25 settled";
        PlateCity x = row(1);
        due(-1, x.settled(0), "without a run");
        tell(x, 0, "cover all;pay 100;");
        tell(x, 1, "cover all;pay 100;");
        tell(x, 2, "cover all;pay 100;beside parts;");
        tell(x, 3, "cover all;beside first;beside after;");
        tell(x, 4, "cover all;beside parts;beside first;pay 150;");
        for (int office = 4; office >= 0; office--) {
            x.policy(0, office, 5000);
        }
        x.run(0, 4);
        due(150, x.settled(4), "first");
        due(84, x.settled(2), "parts: the rest of one to the least act");
        due(83, x.settled(1), "parts");
        due(83, x.settled(0), "parts");
        due(0, x.settled(3), "nothing is left");
        x.run(0, 5);
        due(100, x.settled(0), "parts in full");
        due(50, x.settled(3), "after");
        x.run(0, 1);
        due(100, x.settled(4), "first gets all");
        due(0, x.settled(0), "nothing is left");
        due(0, x.settled(8), "no policy");
        due(-1, x.settled(9), "no office");
        due(-1, x.settled(-1), "no office");
        due(-1, x.settled(LEAST), "no office");
        rests();
        inTurn();
        crowd();
    }

    /** As many policies on one house as there can be acts, but for the terms; the loss is 1. */
    private static void crowd() {
        PlateCity x = cityOf(1, 1);
        x.house(0, 0, 0, 15);
        tell(x, 0, "cover all;pay 7;");
        for (int act = 2; act <= 200; act++) {
            due(act, x.policy(0, 0, 5), "policy");
        }
        x.run(0, 1);
        due(1, x.settled(0), "the one coin");
        due(1, x.claim(2, 1), "to the least act");
        due(0, x.claim(3, 1), "not to others");
        due(5, x.claim(200, 0), "asks");
        due(0, x.claim(200, 1), "gets nothing");
        due(0, x.worst(0, 1), "1 is above 0");
        x.run(0, 14);
        due(14, x.settled(0), "all that is lost");
        due(1, x.claim(15, 1), "the last that gets one");
        due(0, x.claim(16, 1), "the first that does not");
        PlateCity y = cityOf(1, 1);
        y.house(0, 0, 0, 15);
        for (int act = 1; act <= 200; act++) {
            y.policy(0, act % 9, 5);
        }
        y.run(0, 1);
        due(0, y.claim(200, 0), "asks nothing without terms");
        due(511, y.helps(0), "all nine");
    }

    /** Left is 200, and 70, 80, 90, 100 are asked: floors 41, 47, 52, 58, and what lacks goes to the greatest rests. */
    private static void rests() {
        PlateCity x = row(1);
        for (int office = 0; office < 4; office++) {
            tell(x, office, "cover all;");
        }
        int[] sums = {70, 80, 90, 100};
        for (int office = 0; office < 4; office++) {
            x.policy(0, office, sums[office]);
        }
        x.run(0, 2);
        // 14000, 16000, 18000, 20000 by 340: rests 60, 20, 320, 280.
        int[] want = {41, 47, 53, 59};
        for (int office = 0; office < 4; office++) {
            due(want[office], x.settled(office), "rests, " + office);
        }
        x.policy(0, 1, 10);
        x.annul(6);
        x.policy(0, 1, 20);
        x.policy(0, 1, 50);
        x.run(0, 2);
        // 70 of 0, 10, 20, 50 of 1, 90 of 2, 100 of 3, again 340 in all: two of office 1 have rests 300 and 260.
        due(5 + 1 + 11 + 1 + 29, x.settled(1), "an office with three of them");
    }

    private static void inTurn() {
        PlateCity x = row(2);
        x.house(1, 0, 0, 3000);
        tell(x, 0, "cover all;beside first;");
        tell(x, 1, "cover all;beside after;");
        x.policy(0, 1, 100);
        x.policy(0, 0, 250);
        x.policy(0, 1, 900);
        x.policy(0, 0, 250);
        x.policy(1, 0, 99999);
        x.run(0, 12);
        due(250, x.claim(4, 1), "first");
        due(250, x.claim(6, 1), "first");
        due(100, x.claim(3, 1), "after");
        due(600, x.claim(5, 1), "what is left for it");
        due(250 + 250 + 400, x.settled(0), "of both houses");
        x.run(0, 3);
        due(250, x.claim(4, 1), "first");
        due(50, x.claim(6, 1), "what is left for it");
    }

    /** Office 0 owes 1000 to houses, of which 1 bears a half and 2 a half; 1 bears all of what 2 pays. */
    private static PlateCity owing() {
        PlateCity x = row(1);
        tell(x, 0, "cover all;");
        x.policy(0, 0, 99999);
        tell(x, 2, "cover all;beside first;");
        x.policy(0, 2, 200);
        x.deal(1, 0, 500);
        x.deal(2, 0, 500);
        x.deal(1, 2, 1000);
        x.run(0, 12);
        return x;
    }

    private static void fall() {
        promise = "26 fall";
        due(-1, row(1).fall(0, 0), "without a run");
        PlateCity x = owing();
        due(1000, x.fall(0, 0), "owes houses");
        due(700, x.fall(1, 0), "owes 500 and 200");
        due(700, x.fall(2, 0), "owes houses 200 and 500");
        x.coin(1, 70);
        x.coin(2, 300);
        x.coin(0, 100);
        // Office 1 has 70: 50 to 0, 20 to 2. Office 2 has 320: 500 * 320 / 700 = 228 to 0, 91 to houses.
        due(70, x.fall(1, 1), "pays");
        due(1, x.fall(1, 2), "is fallen");
        due(0, x.fall(1, 3), "nothing to houses");
        due(228 + 91, x.fall(2, 1), "pays floors");
        due(91, x.fall(2, 3), "to houses");
        due(1, x.fall(2, 2), "is fallen");
        due(100 + 50 + 228, x.fall(0, 1), "pays what it has");
        due(378, x.fall(0, 3), "to houses");
        due(1, x.fall(0, 2), "is fallen");
        due(0, x.fall(5, 0), "owes nothing");
        due(0, x.fall(5, 2), "stands");
        x.coin(1, 700);
        due(700, x.fall(1, 1), "pays all");
        due(0, x.fall(1, 2), "stands");
        due(1, x.fall(2, 2), "has but 500");
        due(357, x.fall(2, 1) - x.fall(2, 3), "500 * 500 / 700");
        due(142, x.fall(2, 3), "200 * 500 / 700");
        due(100 + 500 + 357, x.fall(0, 1), "pays what it has");
        x.deal(1, 0, 400);
        due(600, x.fall(1, 0), "deals as now");
        due(-1, x.fall(9, 0), "no office");
        due(-1, x.fall(-1, 0), "no office");
        due(-1, x.fall(0, 4), "others");
        due(-1, x.fall(0, -1), "others");
        due(-1, x.fall(MOST, LEAST), "far off");
        due(-1, x.fall(LEAST, 0), "far off");
    }

    private static void rounds() {
        promise = "27 rounds";
        due(-1, row(1).rounds(), "without a run");
        PlateCity x = owing();
        for (int office = 0; office < 3; office++) {
            x.coin(office, 1000);
        }
        due(1, x.rounds(), "nothing changes");
        x.coin(0, 0);
        due(1, x.rounds(), "others pay it all");
        x.coin(2, 600);
        due(1, x.rounds(), "has 800");
        x.coin(2, 499);
        due(3, x.rounds(), "2 in the first, 0 in the second, nothing in the third");
        x.coin(1, 0);
        due(4, x.rounds(), "one in the first, 2 in the second, 0 in the third");
        circle();
    }

    /** Two offices that bear all of each other's: what they have dwindles round by round, beyond the hundredth. */
    private static void circle() {
        PlateCity x = cityOf(1, 1);
        x.house(0, 3, 0, 9960);
        tell(x, 0, "cover all;beside first;");
        tell(x, 1, "cover all;");
        x.policy(0, 0, 4980);
        x.policy(0, 1, 4980);
        x.run(0, 60);
        x.deal(0, 1, 1000);
        x.deal(1, 0, 1000);
        due(9960, x.fall(0, 0), "owes");
        // Each pays the other half of what it was paid: 2490, 1245, 622, 311, 155, 77, 38, 19, 9, 4, 2, 1, 0, 0.
        due(14, x.rounds(), "halves until nothing changes");
        due(0, x.fall(0, 1), "all is gone");
        ring();
    }

    /** Nine offices, each bearing all of all others: each is paid eight times what one pays, and pays a ninth of it. */
    private static void ring() {
        PlateCity x = cityOf(9, 1);
        for (int office = 0; office < 9; office++) {
            x.house(office, 3, 0, 9960);
            tell(x, office, "cover all;");
            x.policy(office, office, 99999);
        }
        x.hazard(0, 9);
        x.wind(1, 2, 20);
        x.run(0, 120);
        for (int bears = 0; bears < 9; bears++) {
            for (int of = 0; of < 9; of++) {
                x.deal(bears, of, 1000);
            }
        }
        due(9 * 9960, x.fall(0, 0), "owes in all");
        int paid = 9960;
        int rounds = 1;
        while (paid > 0) {
            paid = paid * 8 / 9;
            rounds++;
        }
        due(rounds, x.rounds(), "the one in which nothing changed counts");
        for (int office = 0; office < 9; office++) {
            x.coin(office, 9960);
        }
        due(1, x.rounds(), "all can pay");
        due(9 * 9960, x.fall(8, 1), "pays all");
    }

    private static void worst() {
        promise = "28 worst";
        PlateCity x = cityOf(4, 1);
        x.house(0, 0, 0, 1500);
        x.house(1, 0, 0, 3000);
        x.house(3, 0, 0, 3000);
        tell(x, 5, "cover all;");
        due(-1, x.worst(5, 10), "no policy");
        x.policy(0, 5, 99999);
        due(0, x.worst(5, 10), "the one with a policy");
        x.policy(1, 5, 99999);
        due(1, x.worst(5, 10), "worth more");
        x.policy(3, 5, 99999);
        due(1, x.worst(5, 10), "the least cell of like ones");
        x.policy(3, 6, 99999);
        due(-1, x.worst(6, 10), "no terms");
        x.as(4);
        due(1, x.worst(5, 10), "as known");
        x.as(2);
        due(0, x.worst(5, 10), "as known");
        x.as(-1);
        due(-1, x.worst(9, 10), "no office");
        due(-1, x.worst(-1, 10), "no office");
        due(-1, x.worst(5, 0), "minutes");
        due(-1, x.worst(5, 61), "minutes");
        due(-1, x.worst(LEAST, MOST), "far off");
        due(1, x.worst(5, 60) >= 0 ? 1 : 0, "60 minutes");
        due(-1, x.lost(), "no run came of it");
        x.engine(5, 1, 1, 9);
        x.plug(1, true);
        due(3, x.worst(5, 4), "the engine needs a minute more to get there");
    }

    private static void place() {
        promise = "29 place";
        PlateCity x = cityOf(3, 3);
        for (int i = 0; i < 8; i++) {
            due(i + 1, x.place(8 - i), "place");
            due(-1, x.place(8 - i), "told already");
        }
        due(-1, x.place(0), "there are 8");
        due(8, x.all(5), "told");
        PlateCity y = cityOf(1, 1);
        due(-1, y.place(1), "no cell");
        due(-1, y.place(-1), "no cell");
        due(-1, y.place(MOST), "no cell");
        due(-1, y.place(LEAST), "no cell");
        due(0, y.all(5), "told");
        due(1, y.place(0), "without a house");
    }

    private static void plan() {
        promise = "30 plan";
        PlateCity x = cityOf(12, 1);
        x.house(0, 0, 0, 1500);
        tell(x, 4, "help all;");
        due(-1, x.plan(1, 4, 1, 9, 0, 15), "no cell is told");
        x.place(11);
        x.place(5);
        x.place(3);
        x.place(4);
        // Half of 9 is 4; from 4 it is there a minute later.
        due(600, x.plan(1, 4, 1, 9, 0, 15), "from 3: there in minute 5, 6 - 4, 3 - 4");
        due(3, x.planned(0), "planned");
        x.plug(0, true);
        due(500, x.plan(1, 4, 1, 9, 0, 15), "from 3, at once");
        due(1500, x.plan(1, 5, 1, 9, 0, 15), "an office that does not help");
        due(11, x.planned(0), "of like ones the first");
        due(500, x.plan(2, 4, 1, 3, 0, 5), "five minutes for any");
        due(11, x.planned(0), "of like ones the first");
        due(5, x.planned(1), "of like ones the first");
        due(700, x.plan(1, 4, 1, 3, 0, 15), "from 3: 6 - 3, 4 - 3, 2 - 3");
        due(600, x.plan(2, 4, 1, 3, 0, 15), "and from 4: 6 - 3, 4 - 3 - 3");
        due(3, x.planned(0), "in the order told");
        due(4, x.planned(1), "in the order told");
        due(600, x.plan(3, 4, 1, 3, 0, 15), "a third one is of no use");
        due(11, x.planned(0), "the first such set");
        due(3, x.planned(1), "the first such set");
        due(4, x.planned(2), "the first such set");
        due(0, x.all(2), "no engine is left behind");
        x.as(0);
        due(1500, x.plan(1, 4, 1, 9, 0, 15), "as known");
        x.as(-1);
        x.run(0, 2);
        x.plan(1, 4, 1, 9, 0, 15);
        due(200, x.lost(), "the latest run stays");
        wrongPlans(x);
        sets();
    }

    /** A fire in cell 0 with a plug, where the three nearest that are told are together the best. */
    private static void bestSet(int k, int pours, int[] cells, int loss, int[] best) {
        PlateCity x = cityOf(12, 1);
        x.house(0, 0, 0, 1500);
        x.plug(0, true);
        tell(x, 4, "help all;");
        for (int cell : cells) {
            x.place(cell);
        }
        due(loss, x.plan(k, 4, 1, pours, 0, 15), "the best of " + cells.length + " by " + k);
        for (int i = 0; i < k; i++) {
            due(best[i], x.planned(i), "engine " + i + " of the best");
        }
    }

    private static void sets() {
        bestSet(2, 2, new int[] {11, 2, 3, 10}, 500, new int[] {2, 3});
        bestSet(2, 2, new int[] {11, 3, 10, 2}, 500, new int[] {3, 2});
        bestSet(3, 1, new int[] {11, 2, 3, 10, 4}, 700, new int[] {2, 3, 4});
        bestSet(3, 1, new int[] {4, 11, 2, 10, 3}, 700, new int[] {4, 2, 3});
        bestSet(3, 1, new int[] {11, 10, 9, 8, 7, 2, 3, 4}, 700, new int[] {2, 3, 4});
        bestSet(1, 9, new int[] {11, 10, 9, 8, 7, 6, 5, 2}, 400, new int[] {2});
    }

    private static void wrongPlans(PlateCity x) {
        due(-1, x.plan(0, 4, 1, 9, 0, 15), "k");
        due(-1, x.plan(4, 4, 1, 9, 0, 15), "k");
        due(-1, x.plan(1, 9, 1, 9, 0, 15), "office");
        due(-1, x.plan(1, -1, 1, 9, 0, 15), "office");
        due(-1, x.plan(1, 4, 0, 9, 0, 15), "goes");
        due(-1, x.plan(1, 4, 10, 9, 0, 15), "goes");
        due(-1, x.plan(1, 4, 1, 0, 0, 15), "pours");
        due(-1, x.plan(1, 4, 1, 10, 0, 15), "pours");
        due(-1, x.plan(1, 4, 1, 9, 1, 15), "no house");
        due(-1, x.plan(1, 4, 1, 9, -1, 15), "no house");
        due(-1, x.plan(1, 4, 1, 9, 0, 0), "minutes");
        due(-1, x.plan(1, 4, 1, 9, 0, 61), "minutes");
        due(-1, x.plan(MOST, MOST, MOST, MOST, MOST, MOST), "far off");
        due(-1, x.plan(LEAST, LEAST, LEAST, LEAST, LEAST, LEAST), "far off");
        for (int i = 0; i < 10; i++) {
            x.engine(8, 11, 1, 1);
        }
        due(-1, x.plan(3, 4, 1, 9, 0, 15), "13 engines");
        due(600, x.plan(2, 4, 1, 3, 0, 60), "12 engines");
        x.engine(8, 11, 1, 1);
        due(-1, x.plan(2, 4, 1, 4, 0, 60), "13 engines");
    }

    private static void planned() {
        promise = "31 planned";
        PlateCity x = row(5);
        due(-1, x.planned(0), "without a plan");
        for (int cell = 4; cell >= 0; cell--) {
            x.place(cell);
        }
        due(200, x.plan(3, 0, 9, 9, 2, 2), "no engine drives yet");
        for (int i = 0; i < 3; i++) {
            due(4 - i, x.planned(i), "in the order told");
        }
        due(-1, x.planned(3), "none such");
        due(-1, x.planned(-1), "none such");
        due(-1, x.planned(MOST), "none such");
        due(-1, x.planned(LEAST), "none such");
        x.plan(4, 0, 9, 9, 2, 2);
        due(3, x.planned(1), "of the latest that was not NONE");
        x.plan(1, 0, 9, 9, 2, 2);
        due(4, x.planned(0), "of the latest");
        due(-1, x.planned(1), "one alone");
    }

    private static void all() {
        promise = "32 all";
        PlateCity x = cityOf(4, 3);
        x.house(0, 0, 0, 0);
        x.house(1, 0, 0, 0);
        x.engine(0, 0, 1, 1);
        x.engine(0, 0, 1, 1);
        x.engine(0, 0, 1, 1);
        for (int i = 0; i < 4; i++) {
            x.policy(0, 0, 1);
        }
        x.annul(1);
        x.as(2);
        for (int cell = 0; cell < 6; cell++) {
            x.place(cell);
        }
        for (int cell = 4; cell < 11; cell++) {
            x.plug(cell, true);
        }
        int[] want = {12, 2, 3, 5, 2, 6, 7};
        for (int what = 0; what < 7; what++) {
            due(want[what], x.all(what), "all " + what);
        }
        due(-1, x.all(7), "others");
        due(-1, x.all(-1), "others");
        due(-1, x.all(MOST), "others");
        due(-1, x.all(LEAST), "others");
        x.as(-1);
        due(5, x.all(4), "the last one");
        x.as(0);
        due(0, x.all(4), "none");
    }
}
