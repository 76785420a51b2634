/** The boundary cases of the city: promises 1 to 11 and 32, and section I of the document's terms. */
public final class CityBounds {
    private CityBounds() { }

    public static void main(String[] args) {
        newObject();
        newObjectHasNothing();
        newObjectIsItsOwn();
        feedCounts();
        feedRefuses();
        feedOrders();
        end();
        endThenFeed();
        citySizes();
        cellNumbers();
        cityForgets();
        cityForgetsWinds();
        cityForgetsDeals();
        cityForgetsTheRun();
        cityKeeps();
        houses();
        housesInPlace();
        plugs();
        hazards();
        windRanges();
        windDirections();
        windCarries();
        windOfTheLastMinute();
        coins();
        engines();
        enginesAtMost();
        deals();
        dealParts();
        allWhats();
        allCounts();
        lastCall();
        Bound.finish("CityBounds");
    }

    private static void newObject() {
        Bound.of("1 a new object", "A city of one CELL without a HOUSE");
        PlateCity x = new PlateCity();
        Bound.due(-1, PlateCity.NONE, "NONE");
        Bound.due(1, x.all(0), "cells");
        Bound.due(0, x.all(1), "houses");
        Bound.due(-1, x.helps(0), "helps where no house is");
        Bound.due(-1, x.run(0, 1), "a run where no house is");
        Bound.due(-1, x.policy(0, 0, 1), "a policy where no house is");
        Bound.no(x.plug(1, true), "a plug in a second cell");
        Bound.no(x.house(1, 0, 0, 0), "a house in a second cell");
        Bound.no(x.house(-1, 0, 0, 0), "a house ahead of the first cell");
        Bound.yes(x.house(0, 0, 0, 0), "a house in the one cell");
    }

    private static void newObjectHasNothing() {
        Bound.of("1 a new object", "no ENGINES, ACTS");
        PlateCity x = new PlateCity();
        for (int what = 1; what <= 6; what++) {
            Bound.due(0, x.all(what), "all " + what);
        }
        Bound.due(-1, x.annul(1), "the first act is void");
        Bound.no(x.as(1), "known as at the first act");
        Bound.yes(x.as(0), "known as at none");
        Bound.due(0, x.engine(0, 0, 1, 1), "the first engine's number");
        Bound.no(x.end(1), "one byte of an empty tape");
        Bound.due(1, x.terms(0), "the act of an empty tape");
        Bound.of("21 burnt, 22 came, 23 lost, 24 claim, 25 settled, 26 fall, 27 rounds", "NONE without a run()");
        PlateCity y = Bound.row(1, 0, 1);
        y.policy(0, 0, 1);
        y.engine(0, 0, 1, 1);
        Bound.due(-1, y.burnt(0, 0), "burnt");
        Bound.due(-1, y.came(0, 0), "came");
        Bound.due(-1, y.lost(), "lost");
        Bound.due(-1, y.claim(1, 0), "claim");
        Bound.due(-1, y.settled(0), "settled");
        Bound.due(-1, y.fall(0, 0), "fall");
        Bound.due(-1, y.rounds(), "rounds");
    }

    private static void newObjectIsItsOwn() {
        Bound.of("1 a new object", "nothing of one object shows in another");
        PlateCity x = Bound.row(2, 0, 1500);
        x.hazard(0, 9);
        x.wind(1, 2, 20);
        x.coin(0, 100);
        x.deal(1, 0, 1000);
        x.feed(0, 0, 0, 0, 0);
        PlateCity y = new PlateCity();
        Bound.due(1, y.all(0), "cells");
        Bound.no(y.end(1), "a byte on the tape");
        Bound.yes(y.city(2, 1), "city");
        y.house(0, 0, 0, 1500);
        y.house(1, 0, 0, 1500);
        Bound.tell(y, 0, "cover all;");
        y.policy(0, 0, 1);
        Bound.due(1, y.run(0, 1), "run");
        Bound.due(2, y.burnt(1, 1), "heat without hazard, wind");
        Bound.due(0, y.fall(0, 1), "what an office without coin pays");
        Bound.due(0, y.fall(1, 0), "what one without deals owes");
    }

    private static void feedCounts() {
        Bound.of("2 feed", "Twenty bytes come behind those on the tape: how many there are");
        PlateCity x = new PlateCity();
        for (int i = 1; i <= 30; i++) {
            Bound.due(20 * i, x.feed(i, -i, Bound.LEAST, Bound.MOST, 0), "feed " + i);
        }
        Bound.yes(x.end(600), "all of them");
    }

    private static void feedRefuses() {
        Bound.of("2 feed", "NONE, doing nothing, if there would be more than 600");
        PlateCity x = new PlateCity();
        for (int i = 0; i < 30; i++) {
            x.feed(0x20202020, 0x20202020, 0x20202020, 0x20202020, 0x20202020);
        }
        Bound.due(-1, x.feed(0, 0, 0, 0, 0), "620");
        Bound.no(x.end(601), "a 601st byte");
        Bound.yes(x.end(581), "581 of them");
        Bound.due(-1, x.feed(0, 0, 0, 0, 0), "601");
        Bound.no(x.end(582), "a 582nd byte");
        Bound.yes(x.end(580), "580 of them");
        Bound.due(600, x.feed(0x20202020, 0x20202020, 0x20202020, 0x20202020, 0x20202020), "600");
        Bound.due(-1, x.feed(0, 0, 0, 0, 0), "620");
        Bound.due(1, x.terms(0), "600 blanks: nothing of the refused bytes is there");
        Bound.due(0, x.force(0), "force");
    }

    private static void feedOrders() {
        Bound.of("2 feed", "of each number the highest first");
        PlateCity x = new PlateCity();
        x.feed(0x636f7665, 0x7220616c, 0x6c3b7061, 0x7920313b, 0x20202021);
        Bound.due(-1, x.terms(0), "the last byte is no blank");
        Bound.due(19, x.fault(1), "it is the lowest of the fifth");
        for (int i = 0; i < 20; i++) {
            int[] five = {0x20202020, 0x20202020, 0x20202020, 0x20202020, 0x20202020};
            five[i / 4] ^= 0xdf << 24 - i % 4 * 8;
            x.feed(five[0], five[1], five[2], five[3], five[4]);
            x.terms(0);
            Bound.due(i, x.fault(1), "the place of a byte of 255");
        }
        for (int high : new int[] {0x8a8a8a8a, 0xa0a0a0a0, 0xe3efe3ef, 0xb0b0b0b0}) {
            x.feed(0x20202020, high, 0x20202020, 0x20202020, 0x20202020);
            Bound.due(-1, x.terms(0), "bytes of 128 and more are no blanks, letters or digits");
            Bound.due(4, x.fault(1), "their place");
        }
    }

    private static void end() {
        Bound.of("3 end", "The tape has its first n bytes alone: true");
        PlateCity x = new PlateCity();
        Bound.yes(x.end(0), "none of an empty tape");
        x.feed(0x7061793b, 0x70617920, 0x313b7878, 0x78787878, 0x78787878);
        Bound.yes(x.end(20), "all of them");
        Bound.yes(x.end(10), "ten of them");
        Bound.no(x.end(11), "the eleventh is gone");
        Bound.yes(x.end(10), "all ten");
        Bound.due(-1, x.terms(0), "pay; is a fault");
        Bound.due(3, x.fault(1), "in the first bytes, which stay");
        Bound.no(x.end(1), "the tape went");
        Bound.of("3 end", "false, doing nothing, if it has not so many, or n is below 0");
        x.feed(0x70617920, 0x313b7878, 0x78787878, 0x78787878, 0x78787878);
        Bound.no(x.end(21), "one too many");
        Bound.no(x.end(-1), "below 0");
        Bound.no(x.end(Bound.MOST), "far too many");
        Bound.no(x.end(Bound.LEAST), "far below 0");
        Bound.due(40, x.feed(0, 0, 0, 0, 0), "the 20 are there still");
        Bound.yes(x.end(6), "the first six");
        Bound.no(x.end(-1), "below 0");
        Bound.no(x.end(7), "a seventh");
        Bound.due(1, x.terms(0), "pay 1; is as it was");
        Bound.no(x.end(1), "one byte of an empty tape");
        Bound.no(x.end(-1), "below 0");
    }

    private static void endThenFeed() {
        Bound.of("3 end", "what comes then comes behind those that are left");
        PlateCity x = new PlateCity();
        x.feed(0x70617920, 0x78787878, 0x78787878, 0x78787878, 0x78787878);
        Bound.yes(x.end(4), "pay and a blank");
        Bound.due(24, x.feed(0x313b2020, 0x20202020, 0x20202020, 0x20202020, 0x20202020), "feed");
        Bound.due(1, x.terms(0), "pay 1;");
        x.feed(0x70617920, 0x313b2020, 0x20202020, 0x20202020, 0x20202020);
        Bound.yes(x.end(0), "none of them");
        Bound.due(20, x.feed(0x20202020, 0x20202020, 0x20202020, 0x20202020, 0x20202020), "feed");
        Bound.due(2, x.terms(0), "blanks alone");
        Bound.due(0, x.force(0), "no statement");
    }

    private static void citySizes() {
        Bound.of("4 city", "1 to 12 CELLS in a row; false when it can't be");
        Bound.between(1, 12, n -> new PlateCity().city(n, 1), "in a row");
        Bound.between(1, 12, n -> new PlateCity().city(n, 10), "in a row of ten");
        Bound.of("4 city", "1 to 10 rows; false when it can't be");
        Bound.between(1, 10, n -> new PlateCity().city(1, n), "rows");
        Bound.between(1, 10, n -> new PlateCity().city(12, n), "rows of twelve");
        Bound.no(new PlateCity().city(0, 0), "0 by 0");
        Bound.no(new PlateCity().city(-1, -1), "both below 0");
        Bound.no(new PlateCity().city(10, 12), "12 rows");
        Bound.no(new PlateCity().city(65536, 65536), "a product that wraps around to 0");
    }

    private static void cellNumbers() {
        Bound.of("4 city, 32 all", "a CELL's number is its row times how many are in a row, and its column");
        int[][] sizes = {{1, 1}, {12, 1}, {1, 10}, {12, 10}, {3, 2}};
        for (int[] size : sizes) {
            PlateCity x = Bound.cityOf(size[0], size[1]);
            int cells = size[0] * size[1];
            Bound.due(cells, x.all(0), "cells");
            Bound.yes(x.plug(0, true), "the first");
            Bound.yes(x.plug(cells - 1, true), "the last");
            Bound.no(x.plug(cells, true), "behind the last");
            Bound.no(x.plug(-1, true), "ahead of the first");
        }
        PlateCity x = Bound.cityOf(12, 10);
        Bound.yes(x.city(3, 2), "a lesser one in place of it");
        Bound.yes(x.house(5, 0, 0, 0), "its last cell");
        Bound.no(x.house(6, 0, 0, 0), "a cell of the one before");
        // An engine in row 1, column 2 of three goes a column and then a row to cell 1.
        x.house(1, 0, 0, 0);
        x.policy(1, 0, 1);
        x.engine(0, 5, 1, 1);
        x.run(1, 3);
        Bound.due(4, x.came(0, 0), "row 1, column 1");
        x.run(1, 4);
        Bound.due(1, x.came(0, 0), "row 0, column 1");
        Bound.of("18 premium, 21 burnt", "the eight CELLS around it: none beyond the end of a row or ahead of"
            + " the first");
        x = Bound.cityOf(3, 3);
        for (int cell : new int[] {2, 3, 8, 5, 6}) {
            x.house(cell, 3, 0, 0);
        }
        Bound.tell(x, 0, "premium near;");
        int[] cells = {2, 3, 8, 5, 6};
        int[] near = {1, 1, 1, 2, 1};
        for (int i = 0; i < 5; i++) {
            int act = x.policy(cells[i], 0, 1);
            Bound.due(near[i], x.premium(act), "houses around " + cells[i]);
        }
        x.run(3, 1);
        Bound.due(0, x.burnt(2, 1), "heat at the end of the row before");
        Bound.due(2, x.burnt(6, 1), "heat under it");
        Bound.due(0, x.burnt(5, 1), "heat at the end of its row, two off");
        x.run(5, 1);
        Bound.due(0, x.burnt(6, 1), "heat at the beginning of the next row");
        Bound.due(2, x.burnt(8, 1), "heat under it");
        Bound.due(2, x.burnt(2, 1), "heat over it");
    }

    private static PlateCity full() {
        PlateCity x = Bound.row(3, 0, 1500);
        x.plug(1, true);
        x.engine(0, 0, 9, 9);
        x.wind(1, 2, 20);
        x.deal(1, 0, 1000);
        Bound.tell(x, 0, "cover all;");
        x.policy(0, 0, 5000);
        x.place(0);
        x.place(2);
        x.run(0, 5);
        x.plan(2, 0, 9, 9, 0, 5);
        return x;
    }

    private static void cityForgets() {
        Bound.of("4 city", "no HOUSES, PLUGS, ENGINES, ACTS, CELLS told for PLANS any more");
        PlateCity x = full();
        int[] before = {3, 3, 1, 2, 2, 2, 1};
        for (int what = 0; what <= 6; what++) {
            Bound.due(before[what], x.all(what), "all " + what + " before");
        }
        Bound.yes(x.city(3, 1), "the same size again");
        Bound.due(3, x.all(0), "cells");
        for (int what = 1; what <= 6; what++) {
            Bound.due(0, x.all(what), "all " + what);
        }
        Bound.due(-1, x.force(0), "force");
        Bound.due(-1, x.premium(2), "premium");
        Bound.due(-1, x.annul(1), "the first act is void");
        Bound.due(-1, x.helps(0), "helps");
        for (int cell = 0; cell < 3; cell++) {
            x.house(cell, 0, 0, 1500);
        }
        Bound.of("4 city", "ACTS, ENGINES, CELLS told begin anew");
        Bound.due(1, x.policy(0, 0, 5000), "the first act");
        Bound.due(2, x.annul(1), "it is void");
        x.city(3, 1);
        for (int cell = 0; cell < 3; cell++) {
            x.house(cell, 0, 0, 1500);
        }
        Bound.due(1, x.policy(0, 0, 5000), "the first act");
        Bound.due(1, x.helps(0), "it is not void");
        Bound.due(2, x.annul(1), "it is void");
        Bound.due(0, x.helps(0), "it is void");
        Bound.due(0, x.engine(0, 0, 9, 9), "the first engine");
        Bound.due(1, x.place(0), "told already in the one before");
    }

    private static void cityForgetsWinds() {
        Bound.of("4 city", "no WIND any more");
        for (int way = 0; way < 8; way++) {
            PlateCity x = Bound.cityOf(3, 3);
            x.wind(1, way, 20);
            x.city(3, 3);
            for (int cell = 0; cell < 9; cell++) {
                x.house(cell, 3, 0, 0);
            }
            x.run(4, 1);
            for (int cell = 0; cell < 9; cell++) {
                Bound.due(cell == 4 ? 0 : 2, x.burnt(cell, 1), "heat of " + cell + ", way " + way);
            }
        }
        PlateCity y = Bound.row(7, 3, 0);
        y.run(0, 120);
        int still = y.burnt(5, 1);
        y.wind(120, 2, 20);
        y.wind(3, 2, 4);
        y.city(7, 1);
        for (int cell = 0; cell < 7; cell++) {
            y.house(cell, 3, 0, 0);
        }
        y.run(0, 120);
        Bound.due(still, y.burnt(5, 1), "the last minute's");
        y.wind(2, 2, 5);
        windIs(y, new int[] {0, 5, 5, 5}, "one told of a minute of which one was told before");
    }

    private static void cityForgetsDeals() {
        Bound.of("4 city", "no DEALS any more");
        PlateCity x = new PlateCity();
        for (int bears = 0; bears < 9; bears++) {
            for (int of = 0; of < 9; of++) {
                x.deal(bears, of, 1000);
            }
        }
        x.city(1, 1);
        x.house(0, 0, 0, 1500);
        for (int office = 0; office < 9; office++) {
            Bound.tell(x, office, "cover all;");
            x.policy(0, office, 100);
        }
        x.run(0, 9);
        for (int office = 0; office < 9; office++) {
            Bound.due(100, x.fall(office, 0), "what " + office + " owes");
        }
    }

    private static void cityForgetsTheRun() {
        Bound.of("4 city", "no run any more");
        PlateCity x = full();
        Bound.yes(x.city(3, 1), "the same size again");
        Bound.due(-1, x.lost(), "lost");
        Bound.due(-1, x.burnt(0, 0), "burnt");
        Bound.due(-1, x.came(0, 0), "came");
        Bound.due(-1, x.claim(2, 0), "claim");
        Bound.due(-1, x.settled(0), "settled");
        Bound.due(-1, x.fall(0, 0), "fall");
        Bound.due(-1, x.rounds(), "rounds");
        Bound.of("4 city", "no PLAN any more");
        Bound.due(-1, x.planned(0), "planned 0");
        Bound.due(-1, x.planned(1), "planned 1");
    }

    private static void cityKeeps() {
        Bound.of("4 city", "(HAZARDS, COIN stay)");
        PlateCity x = Bound.row(2, 0, 1500);
        for (int trade = 0; trade < 6; trade++) {
            x.hazard(trade, 9 - trade);
        }
        for (int office = 0; office < 9; office++) {
            x.coin(office, 10 + office);
        }
        x.city(2, 1);
        x.house(1, 0, 0, 0);
        for (int trade = 0; trade < 6; trade++) {
            x.house(0, 0, trade, 1500);
            x.run(0, 1);
            Bound.due(2 + 9 - trade, x.burnt(1, 1), "heat by trade " + trade);
        }
        for (int office = 0; office < 9; office++) {
            Bound.tell(x, office, "cover all;beside first;");
            x.policy(0, office, 100);
        }
        x.run(0, 9);
        for (int office = 0; office < 9; office++) {
            Bound.due(10 + office, x.fall(office, 1), "what office " + office + " pays");
        }
    }

    private static void houses() {
        Bound.of("5 house", "A HOUSE in a CELL; false when something can't be (the CELL)");
        Bound.between(0, 119, n -> Bound.cityOf(12, 10).house(n, 0, 0, 0), "cell");
        Bound.of("5 house", "WALL 0 .. 3");
        Bound.between(0, 3, n -> new PlateCity().house(0, n, 0, 0), "wall");
        Bound.of("5 house", "TRADE 0 .. 5");
        Bound.between(0, 5, n -> new PlateCity().house(0, 0, n, 0), "trade");
        Bound.of("5 house", "WORTH 0 .. 9999");
        Bound.between(0, 9999, n -> new PlateCity().house(0, 0, 0, n), "worth");
        PlateCity x = new PlateCity();
        x.house(0, 0, 0, 9999);
        x.run(0, 15);
        Bound.due(9999, x.lost(), "the greatest loss");
        x.house(0, 0, 0, 0);
        x.run(0, 15);
        Bound.due(0, x.lost(), "the least loss");
    }

    private static void housesInPlace() {
        Bound.of("5 house", "in place of one that was there");
        PlateCity x = Bound.row(2, 0, 1500);
        Bound.due(2, x.all(1), "houses");
        Bound.yes(x.house(0, 3, 5, 60), "another one");
        Bound.due(2, x.all(1), "houses");
        Bound.tell(x, 0, "premium wall * 10000 + trade * 1000 + worth;");
        x.policy(0, 0, 1);
        Bound.due(35060, x.premium(2), "its wall, trade, worth");
        x.house(0, 1, 2, 3);
        Bound.due(12003, x.premium(2), "the policy is on the new one");
        Bound.no(x.house(0, 4, 2, 3), "one that can't be");
        Bound.due(12003, x.premium(2), "the one that is there stays");
    }

    private static void plugs() {
        Bound.of("6 plug", "A PLUG is in a CELL; false when there is none such");
        Bound.between(0, 119, n -> Bound.cityOf(12, 10).plug(n, true), "cell");
        Bound.of("6 plug", "or not; false when there is none such");
        Bound.between(0, 119, n -> Bound.cityOf(12, 10).plug(n, false), "cell");
        Bound.of("6 plug, 32 all", "a PLUG told twice is one, one told off that was none is none");
        PlateCity x = Bound.cityOf(2, 2);
        Bound.yes(x.plug(0, false), "off, none there");
        Bound.due(0, x.all(6), "plugs");
        x.plug(3, true);
        Bound.yes(x.plug(3, true), "on again");
        Bound.due(1, x.all(6), "plugs");
        x.plug(0, true);
        x.plug(1, true);
        x.plug(2, true);
        Bound.due(4, x.all(6), "all cells");
        Bound.no(x.plug(4, true), "no cell");
        Bound.due(4, x.all(6), "as before");
        Bound.yes(x.plug(3, false), "off");
        Bound.yes(x.plug(3, false), "off again");
        Bound.due(3, x.all(6), "plugs");
    }

    private static int warmth(PlateCity x, int trade) {
        x.house(0, 3, trade, 0);
        x.run(0, 1);
        return x.burnt(1, 1);
    }

    private static void hazards() {
        Bound.of("7 hazard", "HAZARD of a TRADE (0 .. 5); false when it can't be");
        Bound.between(0, 5, n -> new PlateCity().hazard(n, 1), "trade");
        Bound.of("7 hazard", "0 .. 9");
        Bound.between(0, 9, n -> new PlateCity().hazard(0, n), "hazard");
        Bound.of("7 hazard", "(0 at first)");
        PlateCity x = Bound.row(2, 3, 0);
        for (int trade = 0; trade < 6; trade++) {
            Bound.due(2, warmth(x, trade), "heat by trade " + trade);
        }
        Bound.of("7 hazard", "of that TRADE alone, as last told");
        x.hazard(5, 9);
        x.hazard(0, 9);
        x.hazard(0, 1);
        int[] want = {3, 2, 2, 2, 2, 11};
        for (int trade = 0; trade < 6; trade++) {
            Bound.due(want[trade], warmth(x, trade), "heat by trade " + trade);
        }
        x.hazard(5, 10);
        x.hazard(6, 4);
        x.hazard(5, -1);
        Bound.due(11, warmth(x, 5), "what can't be changes nothing");
        x.hazard(5, 0);
        Bound.due(2, warmth(x, 5), "0 again");
    }

    private static void windRanges() {
        Bound.of("8 wind", "a minute (1 .. 120); false when it can't be");
        Bound.between(1, 120, n -> new PlateCity().wind(n, 0, 0), "minute");
        Bound.of("8 wind", "a direction 0 .. 7");
        Bound.between(0, 7, n -> new PlateCity().wind(1, n, 0), "direction");
        Bound.of("8 wind", "how strong (0 .. 20)");
        Bound.between(0, 20, n -> new PlateCity().wind(1, 0, n), "strong");
        PlateCity x = Bound.row(2, 3, 0);
        x.wind(1, 2, 20);
        x.wind(1, 2, 21);
        x.wind(1, 8, 1);
        x.wind(0, 2, 1);
        x.wind(121, 2, 1);
        x.run(0, 1);
        Bound.due(22, x.burnt(1, 1), "what can't be changes nothing");
        x.wind(1, 2, 0);
        x.run(0, 1);
        Bound.due(2, x.burnt(1, 1), "0 strong");
    }

    private static void windDirections() {
        Bound.of("8 wind", "0 up, to row - 1; then round by up and right, right, down and right, down, down and left,"
            + " left, up and left");
        int[] to = {1, 2, 5, 8, 7, 6, 3, 0};
        for (int way = 0; way < 8; way++) {
            PlateCity x = Bound.cityOf(3, 3);
            for (int cell = 0; cell < 9; cell++) {
                x.house(cell, 3, 0, 0);
            }
            x.wind(1, way, 20);
            x.run(4, 1);
            for (int cell = 0; cell < 9; cell++) {
                Bound.due(cell == 4 ? 0 : cell == to[way] ? 22 : 2, x.burnt(cell, 1), "heat of " + cell + ", " + way);
            }
        }
        Bound.of("8 wind", "a WIND over the edge comes back nowhere");
        for (int way = 0; way < 8; way++) {
            PlateCity x = Bound.cityOf(2, 2);
            for (int cell = 0; cell < 4; cell++) {
                x.house(cell, 3, 0, 0);
            }
            x.wind(1, way, 20);
            x.run(0, 1);
            int[] want = {0, way == 2 ? 22 : 2, way == 4 ? 22 : 2, way == 3 ? 22 : 2};
            for (int cell = 0; cell < 4; cell++) {
                Bound.due(want[cell], x.burnt(cell, 1), "heat of " + cell + ", way " + way);
            }
        }
    }

    private static void windIs(PlateCity x, int[] winds, String what) {
        int heat = 0;
        for (int minute = 1; minute <= winds.length; minute++) {
            heat = Math.max(0, heat - 2) + Math.min(9, minute + 1) + winds[minute - 1];
            x.run(0, minute);
            Bound.due(heat, x.burnt(1, 1), what + ": heat at " + minute);
        }
    }

    private static void windCarries() {
        Bound.of("8 wind", "(0, 0 without)");
        PlateCity x = Bound.row(2, 3, 0);
        windIs(x, new int[] {0, 0, 0}, "none told");
        x.wind(4, 2, 7);
        windIs(x, new int[] {0, 0, 0, 7}, "ahead of the first one told");
        Bound.of("8 wind", "or else of the latest one ahead of it of which one was told");
        windIs(x, new int[] {0, 0, 0, 7, 7, 7}, "behind the one told");
        x.wind(2, 2, 3);
        windIs(x, new int[] {0, 3, 3, 7, 7, 7}, "one told later of an earlier minute");
        x.wind(6, 6, 20);
        windIs(x, new int[] {0, 3, 3, 7, 7, 0}, "it blows elsewhere");
        Bound.of("8 wind", "as last told of that minute");
        x.wind(2, 2, 1);
        windIs(x, new int[] {0, 1, 1, 7, 7, 0}, "told again");
        x.wind(4, 2, 0);
        windIs(x, new int[] {0, 1, 1, 0, 0, 0}, "told again, 0 strong");
        x.wind(1, 2, 20);
        windIs(x, new int[] {20, 1, 1, 0, 0, 0}, "the first minute");
    }

    /** Slow houses in a row, one lit by the other: the fifth burns at minute 120 and warms the sixth. */
    private static void windOfTheLastMinute() {
        Bound.of("8 wind", "WIND from a minute on (120 is the last)");
        PlateCity x = Bound.row(7, 3, 0);
        x.run(0, 120);
        Bound.due(1, x.burnt(4, 0), "the fifth burns");
        int still = x.burnt(5, 1);
        x.wind(120, 2, 20);
        x.run(0, 120);
        Bound.due(still + 20, x.burnt(5, 1), "of 120 alone");
        x.wind(119, 2, 5);
        x.run(0, 120);
        Bound.due(still + 25, x.burnt(5, 1), "of 119, and of 120 as told");
        PlateCity y = Bound.row(7, 3, 0);
        y.wind(119, 2, 5);
        y.run(0, 120);
        Bound.due(still + 10, y.burnt(5, 1), "of 119, and on to 120");
    }

    /** Nine offices that each owe 100 for the one house. */
    private static PlateCity owing() {
        PlateCity x = Bound.row(1, 0, 1500);
        for (int office = 0; office < 9; office++) {
            Bound.tell(x, office, "cover all;");
            x.policy(0, office, 100);
        }
        x.run(0, 9);
        return x;
    }

    private static void coins() {
        Bound.of("9 coin", "OFFICES 0 .. 8; false when it can't be");
        Bound.between(0, 8, n -> new PlateCity().coin(n, 1), "office");
        Bound.of("9 coin", "COIN 0 .. 100000000");
        Bound.between(0, 100000000, n -> new PlateCity().coin(0, n), "coin");
        Bound.of("9 coin", "0 at first");
        PlateCity x = owing();
        for (int office = 0; office < 9; office++) {
            Bound.due(100, x.fall(office, 0), "what " + office + " owes");
            Bound.due(0, x.fall(office, 1), "what " + office + " pays");
        }
        Bound.of("9 coin", "of that OFFICE alone, as last told");
        x.coin(8, 99);
        x.coin(0, 100000000);
        x.coin(0, 1);
        x.coin(8, 100000001);
        x.coin(8, -1);
        x.coin(9, 50);
        int[] want = {1, 0, 0, 0, 0, 0, 0, 0, 99};
        for (int office = 0; office < 9; office++) {
            Bound.due(want[office], x.fall(office, 1), "what " + office + " pays");
        }
        x.coin(0, 0);
        Bound.due(0, x.fall(0, 1), "0 again");
        x.coin(0, 100000000);
        Bound.due(100, x.fall(0, 1), "the greatest");
    }

    private static void engines() {
        Bound.of("10 engine", "ENGINES are of an OFFICE (0 .. 8); NONE when something can't be");
        Bound.between(0, 8, n -> new PlateCity().engine(n, 0, 1, 1) == 0, "office");
        Bound.of("10 engine", "in a home CELL");
        Bound.between(0, 119, n -> Bound.cityOf(12, 10).engine(0, n, 1, 1) == 0, "cell");
        Bound.of("10 engine", "go 1 .. 9 CELLS a minute");
        Bound.between(1, 9, n -> new PlateCity().engine(0, 0, n, 1) == 0, "goes");
        Bound.of("10 engine", "pour 1 .. 9");
        Bound.between(1, 9, n -> new PlateCity().engine(0, 0, 1, n) == 0, "pours");
        PlateCity x = new PlateCity();
        Bound.due(-1, x.engine(9, 0, 1, 1), "no office");
        Bound.due(-1, x.engine(0, 1, 1, 1), "no cell");
        Bound.due(-1, x.engine(0, 0, 10, 1), "goes too far");
        Bound.due(-1, x.engine(0, 0, 1, 0), "pours nothing");
        Bound.due(0, x.all(2), "none of them is there");
    }

    private static void enginesAtMost() {
        Bound.of("10 engine", "12 at most, numbered from 0 on; NONE when there are 12");
        PlateCity x = Bound.row(1, 3, 0);
        for (int i = 0; i < 12; i++) {
            Bound.due(i, x.engine(i % 9, 0, 1, 1), "engine");
            Bound.due(i + 1, x.all(2), "engines");
        }
        Bound.due(-1, x.engine(0, 0, 1, 1), "the 13th");
        Bound.due(-1, x.engine(8, 0, 9, 9), "the 13th");
        Bound.due(12, x.all(2), "engines");
        x.run(0, 1);
        Bound.due(0, x.came(11, 0), "the last one");
        Bound.due(-1, x.came(12, 0), "none such");
    }

    private static void deals() {
        Bound.of("11 deal", "the first OFFICE (0 .. 8); false when it can't be");
        Bound.between(0, 7, n -> n != 8 && new PlateCity().deal(n, 8, 1), "bears");
        Bound.between(1, 8, n -> n != 0 && new PlateCity().deal(n, 0, 1), "bears");
        Bound.of("11 deal", "of another one (0 .. 8)");
        Bound.between(0, 7, n -> n != 8 && new PlateCity().deal(8, n, 1), "of");
        Bound.between(1, 8, n -> n != 0 && new PlateCity().deal(0, n, 1), "of");
        Bound.of("11 deal", "an unlike one");
        for (int office = 0; office < 9; office++) {
            Bound.no(new PlateCity().deal(office, office, 0), "of itself, none");
            Bound.no(new PlateCity().deal(office, office, 500), "of itself, a half");
        }
        Bound.no(new PlateCity().deal(-1, 9, 1), "no offices");
        Bound.no(new PlateCity().deal(9, -1, 1), "no offices");
        Bound.of("11 deal", "so many thousandths (0 .. 1000)");
        Bound.between(0, 1000, n -> new PlateCity().deal(0, 1, n), "thousandths");
    }

    private static void dealParts() {
        Bound.of("11 deal, 26 fall", "(0: none); 1000: all; as last told of these two");
        PlateCity x = owing();
        x.deal(0, 8, 1000);
        x.deal(8, 7, 10);
        x.deal(8, 6, 9);
        Bound.due(200, x.fall(0, 0), "all of what 8 pays");
        Bound.due(101, x.fall(8, 0), "10 thousandths of 100; 9 are less than one");
        x.deal(0, 8, 1001);
        x.deal(0, 8, -1);
        x.deal(0, 0, 1000);
        Bound.due(200, x.fall(0, 0), "what can't be changes nothing");
        x.deal(0, 8, 999);
        Bound.due(199, x.fall(0, 0), "the floor");
        x.deal(0, 8, 0);
        Bound.due(100, x.fall(0, 0), "none");
        Bound.due(101, x.fall(8, 0), "the other one's deals stay");
    }

    private static void allWhats() {
        Bound.of("32 all", "NONE for others");
        PlateCity x = new PlateCity();
        Bound.between(0, 6, n -> x.all(n) != -1, "what");
        Bound.due(-1, x.all(-1), "-1");
        Bound.due(-1, x.all(7), "7");
    }

    private static void allCounts() {
        Bound.of("32 all", "Of all: 0 CELLS, 1 HOUSES, 2 ENGINES, 3 ACTS, 4 the ACT as known at which all is told,"
            + " 5 CELLS told for PLANS, 6 PLUGS (the most of each)");
        PlateCity x = Bound.cityOf(12, 10);
        for (int cell = 0; cell < 120; cell++) {
            x.house(cell, 0, 0, 0);
            x.plug(cell, true);
        }
        for (int i = 0; i < 12; i++) {
            x.engine(0, i, 1, 1);
        }
        for (int i = 0; i < 8; i++) {
            x.place(i);
        }
        for (int i = 0; i < 200; i++) {
            x.policy(i % 120, 0, 1);
        }
        int[] want = {120, 120, 12, 200, 200, 8, 120};
        for (int what = 0; what <= 6; what++) {
            Bound.due(want[what], x.all(what), "all " + what);
        }
        x.as(199);
        Bound.due(199, x.all(4), "known at 199");
        x.as(0);
        Bound.due(0, x.all(4), "known at none");
        x.as(-1);
        Bound.due(200, x.all(4), "known at the last one");
        Bound.due(200, x.all(3), "acts all the while");
    }

    private static void lastCall() {
        Bound.of("21 burnt", "An object is used for at most 512 calls (the last of them answers as the first)");
        PlateCity x = Bound.row(4, 0, 1500);
        for (int call = 6; call <= 510; call++) {
            Bound.due(call % 4 < 2 ? 1 : 0, x.hazard(call % 4, call % 4 < 2 ? 9 : 10) ? 1 : 0, "hazard");
        }
        Bound.due(2, x.run(0, 4), "the 511th call");
        Bound.due(2 + 3 + 4 + 5 + 9 * 4 - 3 * 2, x.burnt(1, 1), "the 512th call");
    }
}
