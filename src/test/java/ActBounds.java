/** The boundary cases of acts: promises 14 to 19, section III, and the meaning of terms in section II. */
public final class ActBounds {
    private ActBounds() { }

    public static void main(String[] args) {
        policies();
        policiesNumbered();
        actsAtMost();
        policyRefusalsTakeNoNumber();
        annulWhat();
        annulOnce();
        annulAtMost();
        asWhat();
        asStays();
        asShows();
        voidByAct();
        termsAsKnown();
        forces();
        forceAsKnown();
        premiums();
        premiumsWithoutTerms();
        premiumOfTheLast();
        premiumFacts();
        arithmetic();
        division();
        limits();
        comparisons();
        helpsOf();
        helpsBits();
        helpsFacts();
        helpsNear();
        helpsTests();
        Bound.finish("ActBounds");
    }

    private static void policies() {
        Bound.of("14 policy", "NONE when something can't be (no HOUSE there)");
        Bound.between(0, 119, n -> Bound.greatest(0, 0).policy(n, 0, 1) == 1, "cell");
        PlateCity x = Bound.cityOf(3, 1);
        x.house(1, 0, 0, 0);
        Bound.due(-1, x.policy(0, 0, 1), "no house in the cell ahead");
        Bound.due(-1, x.policy(2, 0, 1), "no house in the cell behind");
        Bound.due(1, x.policy(1, 0, 1), "a house");
        Bound.of("14 policy", "an OFFICE (0 .. 8)");
        Bound.between(0, 8, n -> Bound.row(1, 0, 0).policy(0, n, 1) == 1, "office");
        Bound.of("14 policy", "a SUM (1 .. 99999)");
        Bound.between(1, 99999, n -> Bound.row(1, 0, 0).policy(0, 0, n) == 1, "sum");
    }

    private static void policiesNumbered() {
        Bound.of("12 terms, 14 policy, 15 annul", "ACTS, numbered from 1 on");
        PlateCity x = Bound.row(1, 0, 0);
        Bound.due(1, x.policy(0, 0, 1), "the first");
        Bound.due(2, x.policy(0, 0, 1), "the same again is another one");
        Bound.due(3, Bound.tell(x, 0, ""), "terms");
        Bound.due(4, x.annul(1), "void");
        Bound.due(5, x.policy(0, 8, 99999), "another policy");
        Bound.due(5, x.all(3), "acts");
    }

    private static void actsAtMost() {
        Bound.of("14 policy", "NONE when there are 200");
        PlateCity x = Bound.row(1, 0, 0);
        for (int act = 1; act <= 200; act++) {
            Bound.due(act, x.policy(0, act % 9, 1), "policy");
        }
        Bound.due(-1, x.policy(0, 0, 1), "the 201st");
        Bound.due(-1, x.policy(0, 0, 1), "the 201st");
        Bound.due(200, x.all(3), "acts");
        Bound.due(0, x.premium(200), "the last one is known");
        Bound.due(-1, x.premium(201), "none such");
    }

    private static void policyRefusalsTakeNoNumber() {
        Bound.of("14 policy, 15 annul", "what is refused is no ACT");
        PlateCity x = Bound.row(1, 0, 0);
        x.policy(1, 0, 1);
        x.policy(0, 9, 1);
        x.policy(0, 0, 0);
        x.policy(0, 0, 100000);
        x.annul(0);
        x.annul(1);
        Bound.tell(x, 0, "pay;");
        Bound.due(0, x.all(3), "acts");
        Bound.due(0, x.helps(0), "helps");
        Bound.due(1, x.policy(0, 0, 1), "the first act");
    }

    private static void annulWhat() {
        Bound.of("15 annul", "NONE when there is none such");
        PlateCity x = Bound.row(1, 0, 0);
        Bound.due(-1, x.annul(0), "0 without acts");
        Bound.due(-1, x.annul(1), "1 without acts");
        x.policy(0, 0, 1);
        x.policy(0, 1, 1);
        x.policy(0, 2, 1);
        Bound.due(-1, x.annul(0), "ahead of the first");
        Bound.due(-1, x.annul(4), "behind the last");
        Bound.due(-1, x.annul(-1), "below 0");
        Bound.due(-1, x.annul(Bound.LEAST), "far below 0");
        Bound.due(-1, x.annul(Bound.MOST), "far behind");
        Bound.due(-1, x.annul(200), "the last that could be");
        Bound.due(-1, x.annul(201), "beyond the last that could be");
        Bound.due(7, x.helps(0), "helps");
        Bound.due(4, x.annul(1), "the first");
        Bound.due(5, x.annul(3), "the last but the void one");
        Bound.due(2, x.helps(0), "helps");
    }

    private static void annulOnce() {
        Bound.of("15 annul", "NONE when it is VOID or tells so");
        PlateCity x = Bound.row(1, 0, 0);
        x.policy(0, 0, 1);
        Bound.tell(x, 1, "help all;");
        Bound.due(3, x.annul(1), "a policy");
        Bound.due(-1, x.annul(1), "it is void");
        Bound.due(-1, x.annul(3), "it tells so");
        Bound.due(4, x.annul(2), "terms");
        Bound.due(-1, x.annul(2), "they are void");
        Bound.due(-1, x.annul(4), "it tells so");
        Bound.due(4, x.all(3), "acts");
        Bound.due(0, x.helps(0), "helps");
        Bound.yes(x.as(2), "as known ahead of that");
        Bound.due(-1, x.annul(1), "it is void all the same");
        Bound.due(3, x.helps(0), "helps as known at 2");
    }

    private static void annulAtMost() {
        Bound.of("15 annul", "NONE when there are 200");
        PlateCity x = Bound.row(1, 0, 0);
        x.policy(0, 3, 1);
        for (int act = 2; act <= 199; act++) {
            x.policy(0, 1, 1);
        }
        Bound.due(200, x.annul(1), "the 200th act");
        Bound.due(2, x.helps(0), "helps");
        Bound.due(-1, x.annul(2), "there are 200");
        Bound.due(-1, x.annul(199), "there are 200");
        Bound.due(0, x.premium(2), "not void");
        Bound.due(200, x.all(3), "acts");
        Bound.due(-1, x.policy(0, 0, 1), "there are 200");
    }

    private static void asWhat() {
        Bound.of("16 as", "(0: none; NONE: always the last one): true; false when there is none such");
        PlateCity x = new PlateCity();
        Bound.between(-1, 0, x::as, "act, of none");
        PlateCity y = Bound.row(1, 0, 0);
        y.policy(0, 0, 1);
        y.policy(0, 1, 1);
        Bound.between(-1, 2, y::as, "act, of two");
        y.policy(0, 2, 1);
        Bound.yes(y.as(3), "the new last one");
        Bound.no(y.as(4), "none such");
        Bound.no(y.as(-2), "none such");
        Bound.no(y.as(200), "none such yet");
    }

    private static void asStays() {
        Bound.of("16 as", "false: all stays known as it was");
        PlateCity x = Bound.row(1, 0, 0);
        for (int office = 0; office < 3; office++) {
            x.policy(0, office, 1);
        }
        x.as(2);
        x.as(4);
        x.as(-2);
        x.as(Bound.LEAST);
        x.as(Bound.MOST);
        Bound.due(2, x.all(4), "known at");
        Bound.due(3, x.helps(0), "helps");
        Bound.of("16 as", "From now on all is told as known at an ACT; NONE: always the last one");
        x.policy(0, 8, 1);
        Bound.due(2, x.all(4), "known at, with one act more");
        Bound.due(3, x.helps(0), "helps, with one act more");
        x.as(-1);
        Bound.due(4, x.all(4), "the last one");
        Bound.due(263, x.helps(0), "helps");
        x.policy(0, 7, 1);
        Bound.due(5, x.all(4), "always the last one");
        Bound.due(391, x.helps(0), "helps");
        x.as(5);
        x.policy(0, 6, 1);
        Bound.due(5, x.all(4), "the last one then");
        Bound.due(391, x.helps(0), "helps");
    }

    private static void asShows() {
        Bound.of("16 as, 17 force, 18 premium, 19 helps", "As known at ACT n: ACTS up to n");
        PlateCity x = Bound.row(1, 0, 0);
        Bound.tell(x, 0, "help all;premium 7;");
        x.policy(0, 4, 1);
        x.policy(0, 0, 1);
        int[] force = {-1, 2, 2, 2};
        int[] helps = {0, 1, 17, 17};
        int[] premium = {-1, -1, -1, 7};
        for (int act = 0; act <= 3; act++) {
            x.as(act);
            Bound.due(act, x.all(4), "known at");
            Bound.due(force[act], x.force(0), "force at " + act);
            Bound.due(helps[act], x.helps(0), "helps at " + act);
            Bound.due(premium[act], x.premium(3), "premium at " + act);
            Bound.due(act < 2 ? -1 : 0, x.premium(2), "premium without terms at " + act);
        }
        Bound.due(3, x.all(3), "acts");
        x.as(0);
        Bound.due(1, x.run(0, 1), "a fire, where nothing is known");
        Bound.due(-1, x.claim(2, 0), "a claim of what is not known");
    }

    private static void voidByAct() {
        Bound.of("15 annul, 16 as", "ACTS up to n that are not VOID by n");
        PlateCity x = Bound.row(1, 0, 0);
        x.policy(0, 2, 1);
        x.policy(0, 3, 1);
        x.annul(1);
        x.annul(2);
        int[] helps = {0, 4, 12, 8, 0};
        for (int act = 0; act <= 4; act++) {
            x.as(act);
            Bound.due(helps[act], x.helps(0), "helps at " + act);
            Bound.due(act == 1 || act == 2 ? 0 : -1, x.premium(1), "premium of the first at " + act);
            Bound.due(act == 2 || act == 3 ? 0 : -1, x.premium(2), "premium of the second at " + act);
        }
    }

    private static void termsAsKnown() {
        Bound.of("12 terms, 15 annul", "the TERMS of an OFFICE are the last told (in place of those before; as known)");
        PlateCity x = Bound.row(1, 0, 0);
        x.policy(0, 0, 1);
        Bound.tell(x, 0, "premium 2;");
        Bound.tell(x, 0, "premium 3;help all;");
        Bound.tell(x, 1, "premium 9;");
        x.annul(3);
        x.annul(2);
        Bound.tell(x, 0, "");
        int[] premium = {-1, 0, 2, 3, 3, 2, 0, 0};
        int[] force = {-1, -1, 1, 2, 2, 1, -1, 0};
        for (int act = 0; act <= 7; act++) {
            x.as(act);
            Bound.due(premium[act], x.premium(1), "premium at " + act);
            Bound.due(force[act], x.force(0), "force at " + act);
            Bound.due(act < 4 ? -1 : 1, x.force(1), "the other one's force at " + act);
        }
    }

    private static void forces() {
        Bound.of("17 force", "NONE without any, or when there is no such OFFICE");
        PlateCity x = new PlateCity();
        for (int office = 0; office < 9; office++) {
            Bound.due(-1, x.force(office), "without any");
        }
        for (int office : new int[] {-1, 9, Bound.LEAST, Bound.MOST}) {
            Bound.due(-1, x.force(office), "no such office");
        }
        Bound.tell(x, 0, "pay 1;");
        Bound.tell(x, 8, "pay 1;pay 2;");
        Bound.due(1, x.force(0), "the first office");
        Bound.due(2, x.force(8), "the last office");
        Bound.due(-1, x.force(7), "without any");
        Bound.due(-1, x.force(9), "no such office");
        Bound.due(-1, x.force(-1), "no such office");
        Bound.of("17 force", "How many STATEMENTS the TERMS of an OFFICE have (0 to 24)");
        for (int n = 0; n <= 24; n++) {
            Bound.due(3 + n, Bound.tell(x, 4, Bound.times(n, "void all;")), "terms");
            Bound.due(n, x.force(4), "force");
        }
        Bound.due(-1, Bound.tell(x, 4, Bound.times(25, "void all;")), "25");
        Bound.due(24, x.force(4), "those before stay");
    }

    private static void forceAsKnown() {
        Bound.of("17 force", "as known");
        PlateCity x = new PlateCity();
        Bound.tell(x, 5, "pay 1;");
        Bound.tell(x, 5, "pay 1;pay 2;");
        x.annul(1);
        x.annul(2);
        int[] force = {-1, 1, 2, 2, -1};
        for (int act = 0; act <= 4; act++) {
            x.as(act);
            Bound.due(force[act], x.force(5), "force at " + act);
        }
    }

    private static void premiums() {
        Bound.of("18 premium", "NONE when it is none, or not known");
        PlateCity x = Bound.row(1, 0, 0);
        Bound.due(-1, x.premium(1), "without acts");
        Bound.due(-1, x.premium(0), "without acts");
        Bound.tell(x, 0, "premium sum;");
        x.policy(0, 0, 12);
        x.policy(0, 0, 34);
        x.annul(3);
        Bound.due(-1, x.premium(0), "ahead of the first");
        Bound.due(-1, x.premium(1), "terms");
        Bound.due(12, x.premium(2), "a policy");
        Bound.due(-1, x.premium(3), "it is void");
        Bound.due(-1, x.premium(4), "it tells so");
        Bound.due(-1, x.premium(5), "behind the last");
        for (int act : new int[] {-1, 200, 201, Bound.LEAST, Bound.MOST}) {
            Bound.due(-1, x.premium(act), "none such");
        }
        x.as(3);
        Bound.due(34, x.premium(3), "not void then");
        x.as(2);
        Bound.due(-1, x.premium(3), "not known then");
        Bound.due(12, x.premium(2), "the last one known then");
        x.as(1);
        Bound.due(-1, x.premium(2), "not known then");
    }

    private static void premiumsWithoutTerms() {
        Bound.of("18 premium", "that SUM, 0 at least");
        Bound.due(0, premiumOf("premium 0-1;"), "-1");
        Bound.due(0, premiumOf("premium 0;"), "0");
        Bound.due(1, premiumOf("premium 1;"), "1");
        Bound.due(0, premiumOf("premium 0-99999*99999;"), "far below 0");
        Bound.due(1000000000, premiumOf("premium 99999*99999;"), "the greatest");
        Bound.of("18 premium", "premium SUM (without one 0)");
        Bound.due(0, premiumOf(""), "no statement");
        Bound.due(0, premiumOf("pay 5;cover all;help all;void all;beside first;"), "other statements");
        PlateCity x = Bound.row(1, 0, 0);
        x.policy(0, 0, 5);
        Bound.due(0, x.premium(1), "no terms");
    }

    private static int premiumOf(String text) {
        PlateCity x = Bound.row(1, 0, 0);
        Bound.due(1, Bound.tell(x, 0, text), "terms " + text);
        x.policy(0, 0, 77777);
        return x.premium(2);
    }

    private static void premiumOfTheLast() {
        Bound.of("18 premium", "premium SUM (the last one counts)");
        Bound.due(2, premiumOf("premium 1;premium 2;"), "of two");
        Bound.due(0, premiumOf("premium 1;premium 0;"), "of two, the last 0");
        Bound.due(0, premiumOf("premium 1;premium 0-1;pay 3;"), "of two, the last below 0");
        Bound.due(1, premiumOf("premium 7;cover all;premium 1;pay 5;beside after;"), "among others");
        Bound.due(24, premiumOf(Bound.times(23, "premium 1;") + "premium 24;"), "of 24");
    }

    private static void premiumFacts() {
        Bound.of("18 premium", "sum: its SUM; others: how many other POLICIES are on the HOUSE (in premium: loss 0)");
        PlateCity x = Bound.row(2, 0, 1500);
        Bound.tell(x, 0, "premium sum + others + loss;");
        x.policy(0, 0, 100);
        Bound.due(100, x.premium(2), "alone");
        x.policy(1, 0, 200);
        Bound.due(100, x.premium(2), "one is on another house");
        x.policy(0, 0, 99999);
        Bound.due(101, x.premium(2), "another of its own office");
        x.policy(0, 8, 1);
        Bound.due(102, x.premium(2), "another of another office");
        Bound.due(99999 + 2, x.premium(4), "the other one");
        x.run(0, 15);
        Bound.due(1500, x.burnt(0, 4), "its loss in the latest run");
        Bound.due(102, x.premium(2), "loss is 0 all the same");
        x.annul(4);
        Bound.due(101, x.premium(2), "one is void");
        x.as(2);
        Bound.due(100, x.premium(2), "as known");
        PlateCity y = Bound.row(1, 0, 0);
        Bound.tell(y, 0, "premium others;");
        for (int act = 2; act <= 200; act++) {
            y.policy(0, act % 9, 1);
        }
        Bound.due(198, y.premium(9), "as many as can be");
    }

    private static void worthIs(int want, String sum) {
        Bound.due(want, premiumOf("premium " + sum + ";"), sum);
    }

    private static void arithmetic() {
        Bound.of("18 premium", "All from the left on");
        worthIs(5, "10-3-2");
        worthIs(9, "10-3+2");
        worthIs(2, "24/4/3");
        worthIs(18, "24/4*3");
        worthIs(6, "7*5/5-1");
        worthIs(0, "2/3*3");
        worthIs(7, "1+2*3");
        worthIs(9, "(1+2)*3");
        worthIs(1, "7-2*3");
        worthIs(5, "20/2-10/2");
        Bound.of("18 premium", "min ( SUM , SUM ) ; max ( SUM , SUM )");
        worthIs(3, "min(3,4)");
        worthIs(3, "min(4,3)");
        worthIs(4, "max(3,4)");
        worthIs(4, "max(4,3)");
        worthIs(4, "min(4,4)");
        worthIs(4, "max(4,4)");
        worthIs(5, "max(0-5,0-3)+8");
        worthIs(3, "min(0-5,0-3)+8");
        worthIs(13, "min(1+2,2*2)*max(1,2)+max(min(9,7),3)");
    }

    private static void division() {
        Bound.of("18 premium", "/ gives the greatest whole number not above");
        worthIs(3, "7/2");
        worthIs(3, "6/2");
        worthIs(2, "5/2");
        worthIs(0, "1/2");
        worthIs(0, "0/2");
        worthIs(6, "(0-7)/2+10");
        worthIs(7, "(0-6)/2+10");
        worthIs(9, "(0-1)/2+10");
        worthIs(9, "(0-1)/99999+10");
        worthIs(6, "7/(0-2)+10");
        worthIs(7, "6/(0-2)+10");
        worthIs(9, "1/(0-99999)+10");
        worthIs(3, "(0-7)/(0-2)");
        worthIs(0, "(0-1)/(0-2)");
        worthIs(1000000000, "(0-50000*20000)/(0-1)");
        worthIs(1, "50000*20000/50000/20000");
        Bound.of("18 premium", "by 0 it gives 0");
        worthIs(0, "1/0");
        worthIs(0, "0/0");
        worthIs(0, "99999/(1-1)");
        worthIs(10, "(0-1)/0+10");
        worthIs(8, "5/0*9+8");
        worthIs(0, "5/(3/4)");
    }

    private static void limits() {
        Bound.of("18 premium", "each sum, difference, product above 10 to the 9 is that");
        worthIs(1000000000, "50000*20000");
        worthIs(1000000000, "50000*20001");
        worthIs(999950000, "50000*19999");
        worthIs(1000000000, "31623*31623");
        worthIs(999950884, "31622*31622");
        worthIs(1000000000, "99999*99999*99999");
        worthIs(1000000000, "65536*65536");
        worthIs(1000000000, "50000*20000+1");
        worthIs(1000000000, "50000*20000+50000*20000");
        worthIs(1000000000, "50000*20000-1+1");
        worthIs(1000000000, "50000*20000-1+2");
        worthIs(999999999, "50000*20000-1");
        worthIs(999999999, "50000*20000+1-1");
        worthIs(1000000000, "1-(0-50000*20000)");
        worthIs(1000000000, "0-(0-50000*20000)");
        worthIs(999999999, "0-1-(0-50000*20000)");
        worthIs(1000000000, "(0-50000*20000)*(0-50000*20000)");
        Bound.of("18 premium", "below -10 to the 9 likewise");
        worthIs(0, "0-50000*20000-1+50000*20000");
        worthIs(0, "0-50000*20000-50000*20000+50000*20000");
        worthIs(1, "0-50000*20000-99999+1+50000*20000");
        worthIs(1, "0-50000*20000+1+50000*20000");
        worthIs(0, "(0-50000*20000)*50000+50000*20000");
        worthIs(1, "(0-50000)*20001+1+50000*20000");
        worthIs(0, "(0-50000)*20000+50000*20000");
        worthIs(50000, "(0-50000)*19999+50000*20000");
        worthIs(0, "65536*(0-65536)+50000*20000");
        worthIs(7, "0-50000*20000+(0-50000*20000)+50000*20000+7");
    }

    private static boolean holds(String test) {
        PlateCity x = Bound.row(1, 0, 0);
        Bound.due(1, Bound.tell(x, 3, "help " + test + ";"), "terms help " + test);
        return x.helps(0) == 8;
    }

    private static void comparisons() {
        Bound.of("19 helps", "SUM SIGN SUM, SIGN < or > or =");
        for (int left = 0; left < 3; left++) {
            for (int right = 0; right < 3; right++) {
                Bound.due(left < right ? 1 : 0, holds(left + "<" + right) ? 1 : 0, left + "<" + right);
                Bound.due(left > right ? 1 : 0, holds(left + ">" + right) ? 1 : 0, left + ">" + right);
                Bound.due(left == right ? 1 : 0, holds(left + "=" + right) ? 1 : 0, left + "=" + right);
            }
        }
        Bound.yes(holds("0-1<0"), "-1 is below 0");
        Bound.yes(holds("0-50000*20000<50000*20000"), "the least is below the greatest");
        Bound.no(holds("0-50000*20000>50000*20000"), "the least is not above the greatest");
        Bound.yes(holds("0-50000*20000=0-99999*99999"), "the least is the least");
        Bound.no(holds("0-50000*20000<0-99999*99999"), "the least is not below the least");
    }

    private static void helpsOf() {
        Bound.of("19 helps", "OFFICES that HELP a HOUSE; NONE when there is none such");
        PlateCity x = Bound.cityOf(3, 1);
        x.house(1, 0, 0, 0);
        Bound.due(-1, x.helps(0), "no house ahead of it");
        Bound.due(0, x.helps(1), "a house, no help");
        Bound.due(-1, x.helps(2), "no house behind it");
        Bound.due(-1, x.helps(3), "no cell");
        Bound.due(-1, x.helps(-1), "no cell");
        Bound.due(-1, x.helps(Bound.LEAST), "no cell");
        Bound.due(-1, x.helps(Bound.MOST), "no cell");
        Bound.due(0, Bound.greatest(0, 0).helps(119), "the last cell");
        Bound.due(-1, Bound.greatest(0, 0).helps(120), "behind the last cell");
    }

    private static void helpsBits() {
        Bound.of("19 helps", "as bits");
        for (int office = 0; office < 9; office++) {
            PlateCity x = Bound.row(2, 0, 0);
            x.policy(0, office, 1);
            Bound.due(1 << office, x.helps(0), "of office " + office);
            Bound.due(0, x.helps(1), "of another house");
            Bound.tell(x, 8 - office, "help all;");
            Bound.due(1 << office | 1 << 8 - office, x.helps(0), "of two");
            Bound.due(1 << 8 - office, x.helps(1), "of another house");
        }
        PlateCity x = Bound.row(1, 0, 0);
        for (int office = 0; office < 9; office++) {
            x.policy(0, office, 1);
        }
        Bound.due(511, x.helps(0), "of all");
        Bound.of("19 helps", "some POLICY of it is on it, or some help of its TERMS holds");
        Bound.yes(holds("1=2;help 1=1"), "the second of two");
        Bound.yes(holds("1=1;help 1=2"), "the first of two");
        Bound.no(holds("1=2;help 1=3"), "none of two");
        Bound.no(holds("1=2;cover all;void all"), "cover and void are no help");
        Bound.yes(holds("1=2;" + Bound.times(22, "help 1=2;") + "help all"), "the last of 24");
        PlateCity y = Bound.row(1, 0, 0);
        Bound.tell(y, 0, "help not all;");
        y.policy(0, 0, 1);
        Bound.due(1, y.helps(0), "a policy, no help that holds");
        y.policy(0, 0, 1);
        y.annul(2);
        Bound.due(1, y.helps(0), "one of two policies");
        y.annul(3);
        Bound.due(0, y.helps(0), "both are void");
    }

    private static void helpsFacts() {
        Bound.of("19 helps", "(loss 0; in help: sum 0, others: all POLICIES)");
        PlateCity x = Bound.row(2, 0, 1500);
        x.policy(0, 1, 500);
        x.policy(0, 1, 600);
        x.policy(0, 2, 600);
        Bound.tell(x, 0, "help loss=0 and sum=0 and others=3;");
        Bound.due(7, x.helps(0), "three policies");
        Bound.due(0, x.helps(1), "none");
        Bound.tell(x, 0, "help others=0;");
        Bound.due(6, x.helps(0), "three policies");
        Bound.due(1, x.helps(1), "none");
        x.run(0, 15);
        Bound.tell(x, 0, "help loss=0 and sum=0;");
        Bound.due(7, x.helps(0), "a loss in the latest run");
        Bound.of("19 helps", "office N (some POLICY of OFFICE N, 0 .. 8, is on the HOUSE)");
        for (int office = 0; office < 9; office++) {
            PlateCity y = Bound.row(2, 0, 0);
            y.policy(0, office, 1);
            Bound.tell(y, (office + 1) % 9, "help office " + office + ";");
            Bound.tell(y, (office + 2) % 9, "help not office " + office + ";");
            Bound.due(1 << office | 1 << (office + 1) % 9, y.helps(0), "it is");
            Bound.due(1 << (office + 2) % 9, y.helps(1), "it is not");
            y.annul(1);
            Bound.due(1 << (office + 2) % 9, y.helps(0), "it is void");
        }
    }

    private static void helpsNear() {
        Bound.of("18 premium, 19 helps", "near: HOUSES in the eight CELLS around it");
        PlateCity x = Bound.cityOf(5, 5);
        x.house(12, 0, 0, 0);
        for (int n = 0; n <= 8; n++) {
            Bound.tell(x, n, "help near = " + n + ";");
        }
        Bound.due(1, x.helps(12), "none around");
        int[] around = {6, 7, 8, 11, 13, 16, 17, 18};
        int[] beyond = {0, 1, 2, 3, 4, 5, 9, 10, 14, 15, 19, 20, 21, 22, 23, 24};
        for (int cell : beyond) {
            x.house(cell, 0, 0, 0);
        }
        Bound.due(1, x.helps(12), "all beyond");
        for (int i = 0; i < 8; i++) {
            x.house(around[i], 0, 0, 0);
            Bound.due(1 << i + 1, x.helps(12), "so many around");
        }
        Bound.due(1 << 3, x.helps(0), "a corner");
        Bound.due(1 << 5, x.helps(10), "the left edge");
        Bound.due(1 << 5, x.helps(14), "the right edge");
        Bound.due(1 << 3, x.helps(24), "a corner");
    }

    private static void helpsTests() {
        Bound.of("19 helps", "TEST: BOTH { or BOTH }. BOTH: FACT { and FACT }. FACT: not FACT; [ TEST ] ; all");
        Bound.yes(holds("all"), "all");
        Bound.no(holds("not all"), "not");
        Bound.yes(holds("not not all"), "not not");
        Bound.no(holds("not not not not not all"), "five");
        Bound.yes(holds("not not not not not not all"), "six");
        for (int bits = 0; bits < 24; bits++) {
            testsOf(bits & 7, new String[] {"1=", "1>1-", "0<"}[bits >> 3]);
        }
        Bound.of("19 helps", "FACT: office N, in all places where a FACT may be");
        for (int office = 7; office <= 8; office++) {
            PlateCity x = Bound.row(1, 0, 0);
            x.policy(0, office, 1);
            Bound.tell(x, 0, "help office 7 and not office 8 and all;");
            Bound.tell(x, 1, "help not [office 7 or office 6];");
            Bound.tell(x, 2, "help office 8 or office 6;");
            Bound.due(office == 7 ? 1 + 128 : 2 + 4 + 256, x.helps(0), "helps, with a policy of " + office);
        }
    }

    private static void testsOf(int bits, String sign) {
        String a = sign + (bits & 1);
        String b = sign + (bits >> 1 & 1);
        String c = sign + (bits >> 2);
        boolean x = (bits & 1) == 1;
        boolean y = (bits >> 1 & 1) == 1;
        boolean z = bits >> 2 == 1;
        Bound.due(x || y && z ? 1 : 0, holds(a + " or " + b + " and " + c) ? 1 : 0, "or, and " + bits);
        Bound.due(x && y || z ? 1 : 0, holds(a + " and " + b + " or " + c) ? 1 : 0, "and, or " + bits);
        Bound.due((x || y) && z ? 1 : 0, holds("[" + a + " or " + b + "] and " + c) ? 1 : 0, "[or] and " + bits);
        Bound.due(!x && y ? 1 : 0, holds("not " + a + " and " + b) ? 1 : 0, "not, and " + bits);
        Bound.due(!(x && y) ? 1 : 0, holds("not [" + a + " and " + b + "]") ? 1 : 0, "not [and] " + bits);
        Bound.due(x || y || z ? 1 : 0, holds(a + " or " + b + " or " + c) ? 1 : 0, "or, or " + bits);
        Bound.due(x && y && z ? 1 : 0, holds(a + " and " + b + " and " + c) ? 1 : 0, "and, and " + bits);
    }
}
