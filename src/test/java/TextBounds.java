/** The boundary cases of the texts of terms: promises 12 and 13, and section II of the document's terms. */
public final class TextBounds {
    private static final String MANY = Bound.times(24, "pay 1;");

    private TextBounds() { }

    public static void main(String[] args) {
        blanks();
        blanksBetween();
        blanksNeeded();
        statements();
        besides();
        tests();
        sums();
        numbers();
        offices();
        faultOfBytes();
        faultOfWords();
        faultOfEnds();
        faultOfEndsEverywhere();
        faultOfNumbers();
        faultOfSixthDigits();
        faultOfOpenOnes();
        faultOfOpenMixed();
        openUntilItsEnd();
        faultOfManyStatements();
        faultsAlongTheText();
        fullTapes();
        cutTapes();
        termsTakeTheTape();
        termsRefused();
        termsRefusedByActs();
        faultWhats();
        faultOfTheLatest();
        Bound.finish("TextBounds");
    }

    private static void blanks() {
        Bound.of("12 terms, 13 fault", "blanks (10, 32)");
        Bound.sound(1, "cover\nall;");
        Bound.sound(1, "cover all;");
        for (char sign = 0; sign < 256; sign++) {
            boolean solid = sign < 128 && Character.isLetterOrDigit(sign);
            if (sign == 10 || sign == 32) {
                Bound.sound(1, sign + "cover" + sign + "all;" + sign);
                continue;
            }
            Bound.faulty(1, 0, sign + "cover all;");
            Bound.faulty(1, 10, "cover all;" + sign);
            if (!solid && sign != '[' && sign != '(') {
                Bound.faulty(1, 5, "cover" + sign + "all;");
            }
        }
    }

    private static void blanksBetween() {
        Bound.of("12 terms", "with blanks between where one likes");
        Bound.sound(2, "cover[not all]or wall+1*(2)<min(3,sum)and not office 7;pay max(loss,1)/2-1;");
        Bound.sound(2, "\n cover  [ not\nall ]\n\nor wall + 1 * ( 2 ) < min ( 3 , sum ) and not office \n 7 ;\n"
            + "pay  max ( loss , 1 ) / 2 - 1 \n ; \n ");
        Bound.faulty(1, 0, "co ver all;");
        Bound.faulty(1, 6, "pay 1 2;");
        Bound.faulty(1, 4, "pay m in(1,2);");
    }

    private static void blanksNeeded() {
        Bound.of("12 terms, 13 fault", "(words and numbers side by side need one)");
        Bound.faulty(1, 0, "coverall;");
        Bound.faulty(1, 6, "cover notall;");
        Bound.faulty(1, 3, "pay1;");
        Bound.faulty(1, 12, "cover office0;");
        Bound.faulty(1, 9, "cover 1<2and all;");
        Bound.faulty(1, 11, "cover 1<sum2;");
        Bound.sound(1, "cover office 0;");
        Bound.sound(1, "cover 1<2 and all;");
        Bound.sound(3, "cover not\nall;pay\n1;beside\nfirst;");
    }

    private static void statements() {
        Bound.of("12 terms, 17 force", "{ STATEMENT ; }: none as well");
        Bound.sound(0, "");
        Bound.sound(0, " ");
        Bound.sound(0, "\n");
        Bound.sound(0, Bound.times(600, " "));
        Bound.faulty(1, 0, ";");
        Bound.faulty(1, 2, "  ;");
        Bound.faulty(1, 10, "cover all;;");
        Bound.of("12 terms, 13 fault", "STATEMENTS: cover, void, help TEST; pay, premium SUM; beside first, parts,"
            + " after");
        for (String word : new String[] {"cover", "void", "help"}) {
            Bound.sound(1, word + " all;");
            Bound.faulty(1, word.length() + 2, word + " 1;");
            Bound.faulty(1, word.length(), word + ";");
            Bound.faulty(1, word.length() + 1, word + " first;");
            Bound.faulty(1, word.length() + 5, word + " all all;");
        }
        for (String word : new String[] {"pay", "premium"}) {
            Bound.sound(1, word + " 1;");
            Bound.faulty(1, word.length() + 1, word + " all;");
            Bound.faulty(1, word.length() + 1, word + " not all;");
            Bound.faulty(1, word.length() + 1, word + " [all];");
            Bound.faulty(1, word.length() + 3, word + " 1 < 2;");
            Bound.faulty(1, word.length(), word + ";");
        }
        for (String word : new String[] {"first", "parts", "after", "all", "not", "wall", "min", "and", "1", "(",
            "["}) {
            Bound.faulty(1, 0, word + " all;");
        }
    }

    private static void besides() {
        Bound.of("12 terms, 13 fault", "beside first, beside parts, beside after: one word of these");
        for (String word : new String[] {"first", "parts", "after"}) {
            Bound.sound(1, "beside " + word + ";");
            Bound.sound(1, "beside\n" + word + " ;");
            Bound.faulty(1, 13, "beside " + word + " parts;");
            Bound.faulty(1, 12, "beside " + word);
        }
        for (String word : new String[] {"fist", "firsts", "all", "beside", "1", "part", "afte", "cover", "wall",
            "["}) {
            Bound.faulty(1, 7, "beside " + word + ";");
        }
        Bound.faulty(1, 6, "beside;");
        Bound.faulty(1, 6, "beside");
    }

    private static void tests() {
        Bound.of("12 terms, 13 fault", "TEST: BOTH { or BOTH }. BOTH: FACT { and FACT }");
        Bound.sound(1, "cover all or all and all or all;");
        for (String join : new String[] {"or", "and"}) {
            Bound.faulty(1, 6, "cover " + join + " all;");
            Bound.faulty(1, 11 + join.length(), "cover all " + join + " ;");
            Bound.faulty(1, 11 + join.length(), "cover all " + join + " " + join + " all;");
        }
        Bound.of("12 terms, 13 fault", "FACT: not FACT; [ TEST ] ; all; office N; SUM SIGN SUM");
        Bound.sound(1, "cover not not all;");
        Bound.sound(1, "cover [[all or all] and not [all]];");
        Bound.faulty(1, 9, "cover not;");
        Bound.faulty(1, 7, "cover [];");
        Bound.faulty(1, 10, "cover [all;");
        Bound.faulty(1, 9, "cover all];");
        Bound.faulty(1, 11, "cover [all]];");
        Bound.faulty(1, 7, "cover (all);");
        Bound.faulty(1, 8, "cover [1];");
        Bound.of("12 terms, 13 fault", "SIGN < or > or = (one)");
        Bound.sound(1, "cover 1<2 and 1>2 and 1=2;");
        Bound.faulty(1, 7, "cover 1;");
        Bound.faulty(1, 6, "cover <1;");
        Bound.faulty(1, 8, "cover 1<;");
        Bound.faulty(1, 8, "cover 1<=2;");
        Bound.faulty(1, 8, "cover 1==2;");
        Bound.faulty(1, 7, "cover 1!=2;");
        Bound.faulty(1, 9, "cover 1<2<3;");
        Bound.faulty(1, 9, "cover 1=1=1;");
    }

    private static void sums() {
        Bound.of("12 terms, 13 fault", "SUM: PRODUCT { + or - PRODUCT }. PRODUCT: PART { * or / PART }");
        Bound.sound(1, "pay 1+2-3*4/5-6+7;");
        for (char join : "+-*/".toCharArray()) {
            Bound.faulty(1, 4, "pay " + join + "1;");
            Bound.faulty(1, 6, "pay 1" + join + ";");
            Bound.faulty(1, 6, "pay 1" + join + join + "1;");
        }
        Bound.faulty(1, 5, "pay 1%2;");
        Bound.of("12 terms, 13 fault", "PART: N; wall; trade; worth; sum; loss; others; near; ( SUM ) ;"
            + " min ( SUM , SUM ) ; max ( SUM , SUM )");
        Bound.sound(1, "pay 1+wall+trade+worth+sum+loss+others+near+(1)+min(1,2)+max(1,2);");
        for (String word : new String[] {"office", "all", "not", "first", "pay", "cover", "and", "walls", "tra", "x"}) {
            Bound.faulty(1, 4, "pay " + word + ";");
        }
        Bound.faulty(1, 5, "pay ();");
        Bound.faulty(1, 6, "pay (1;");
        Bound.faulty(1, 5, "pay 1);");
        Bound.faulty(1, 6, "pay (1,2);");
        for (String word : new String[] {"min", "max"}) {
            Bound.faulty(1, 7, "pay " + word + ";");
            Bound.faulty(1, 8, "pay " + word + " 1;");
            Bound.faulty(1, 8, "pay " + word + "();");
            Bound.faulty(1, 9, "pay " + word + "(1);");
            Bound.faulty(1, 10, "pay " + word + "(1,);");
            Bound.faulty(1, 11, "pay " + word + "(1,2;");
            Bound.faulty(1, 11, "pay " + word + "(1,2,3);");
            Bound.faulty(1, 7, "pay " + word + "[1,2];");
        }
    }

    private static void numbers() {
        Bound.of("12 terms, 13 fault", "N (1 to 5 digits)");
        for (String n : new String[] {"0", "9", "10", "99", "100", "999", "9999", "10000", "99999", "00000", "00001"}) {
            Bound.sound(1, "pay " + n + ";");
        }
        Bound.faulty(1, 9, "pay 100000;");
        Bound.faulty(1, 9, "pay 000000;");
        Bound.faulty(1, 9, "pay 000001;");
        Bound.faulty(1, 4, "pay ;");
        Bound.faulty(1, 5, "pay 1.5;");
        Bound.faulty(1, 5, "pay 1_0;");
    }

    private static void offices() {
        Bound.of("13 fault", "office N (OFFICE N, 0 .. 8); 2 a number (of 1 to 5 digits) that can't be, at it");
        for (int office = 0; office <= 8; office++) {
            Bound.sound(1, "cover office " + office + ";");
            Bound.sound(1, "cover office 0000" + office + ";");
        }
        for (String n : new String[] {"9", "10", "18", "80", "00009", "099", "90000", "99999"}) {
            Bound.faulty(2, 13, "cover office " + n + ";");
            Bound.faulty(2, 13, "cover office " + n);
            Bound.faulty(2, 15, "cover office\n  " + n + " x;");
        }
        Bound.faulty(1, 18, "cover office 000008;");
        Bound.faulty(1, 18, "cover office 999999;");
        Bound.faulty(1, 12, "cover office;");
        Bound.faulty(1, 13, "cover office (1);");
        Bound.faulty(1, 13, "cover office sum;");
        Bound.faulty(1, 13, "cover office -1;");
        Bound.faulty(1, 14, "cover office 1+1;");
    }

    private static void faultOfBytes() {
        Bound.of("13 fault", "1 the first byte with which no TERMS go on");
        Bound.faulty(1, 0, "?");
        Bound.faulty(1, 0, "Cover all;");
        Bound.faulty(1, 6, "cover All;");
        Bound.faulty(1, 9, "cover all.");
        Bound.faulty(1, 9, "cover all:;");
        Bound.faulty(1, 10, "cover all;\t");
        Bound.faulty(1, 5, "cover\u00a0all;");
        Bound.faulty(1, 10, "cover all;\u0000");
        Bound.faulty(1, 10, "cover all;\u00ff");
        Bound.faulty(1, 11, "cover all; ;pay ;");
    }

    private static void faultOfWords() {
        Bound.of("13 fault", "(words and numbers whole, at their first byte)");
        String[] words = {"cover", "void", "help", "pay", "premium", "beside"};
        for (String word : words) {
            for (int n = 1; n < word.length(); n++) {
                Bound.faulty(1, 0, word.substring(0, n));
                Bound.faulty(1, 1, " " + word.substring(0, n) + " all;");
                Bound.faulty(1, 0, word.substring(n) + " all;");
            }
            for (char letter : "asz".toCharArray()) {
                Bound.faulty(1, 0, word + letter + " all;");
                Bound.faulty(1, 0, letter + word + " all;");
            }
            Bound.faulty(1, 0, word + word + ";");
        }
        for (String word : new String[] {"wal", "walls", "trad", "worthy", "su", "sums", "los", "lossy", "other",
            "otherss", "nea", "nearby", "mi", "mina", "ma", "maxi", "z", "zzzzzzzzzz"}) {
            Bound.faulty(1, 6, "pay 1+" + word + ";");
        }
        for (String word : new String[] {"al", "alls", "officer", "offic", "no", "nots", "o"}) {
            Bound.faulty(1, 6, "cover " + word + " 1;");
        }
        for (String word : new String[] {"an", "ands", "o", "ore", "orand"}) {
            Bound.faulty(1, 10, "cover all " + word + " all;");
        }
        Bound.faulty(1, 10, "cover all 12345;");
        Bound.faulty(1, 10, "cover all 123456;");
        Bound.faulty(1, 0, "123456");
        Bound.faulty(1, 7, "beside 1234567;");
        Bound.faulty(1, 6, "pay 1 1234567;");
    }

    private static void faultOfEnds() {
        Bound.of("13 fault", "at the text's length, if it ends too soon");
        for (String text : new String[] {"cover", "cover all", "cover not", "cover [", "cover [all", "cover all or",
            "cover all and", "cover office", "cover office 8", "cover 1", "cover 1 <", "cover 1 < 2", "pay", "pay 1",
            "pay 12345", "pay 1 +", "pay 1 *", "pay (", "pay (1", "pay (1)", "pay min", "pay min (", "pay min (1",
            "pay min (1 ,", "pay min (1, 2", "pay max(1,2)", "premium", "beside", "beside after", "void", "help"}) {
            Bound.faulty(1, text.length(), text);
            Bound.faulty(1, text.length() + 1, text + " ");
            Bound.faulty(1, text.length() + 2, text + "\n\n");
            Bound.faulty(1, text.length() + 6, "pay 7;" + text);
        }
    }

    // Each way to cut a text: whole statements stand, a word in two is not known, all else ends too soon.
    private static void faultOfEndsEverywhere() {
        Bound.of("13 fault", "at the text's length, if it ends too soon (cut behind each of its bytes)");
        String text = "void not [wall < 2 or office 3]; pay min(loss, 100); beside first;";
        String words = " void not wall or office pay min loss beside first 2 3 1 10 100 ";
        int whole = 0;
        for (int n = 0; n <= text.length(); n++) {
            String cut = text.substring(0, n);
            int from = n;
            while (from > 0 && Character.isLetterOrDigit(text.charAt(from - 1))) {
                from--;
            }
            if (n > 0 && text.charAt(n - 1) == ';') {
                whole++;
            }
            if (n == 0 || cut.trim().endsWith(";")) {
                Bound.sound(whole, cut);
            } else {
                boolean known = from == n || words.contains(" " + cut.substring(from) + " ");
                Bound.faulty(1, known ? n : from, cut);
            }
        }
    }

    private static void faultOfNumbers() {
        Bound.of("13 fault", "2 a number (of 1 to 5 digits) that can't be, at it: ahead of what follows");
        Bound.faulty(2, 13, "cover office 9");
        Bound.faulty(2, 13, "cover office 9x;");
        Bound.faulty(2, 13, "cover office 12345?");
        Bound.faulty(2, 21, "cover all and office 9;");
        Bound.faulty(2, 31, "cover [[[[[[office 0 or office 9]]]]]];");
        Bound.faulty(2, 24, "pay 1; cover not office 9; x");
    }

    private static void faultOfSixthDigits() {
        Bound.of("13 fault", "where a number is asked, a 6th digit at itself");
        Bound.faulty(1, 9, "pay 123456;");
        Bound.faulty(1, 9, "pay 123456");
        Bound.faulty(1, 9, "pay 1234567890123456789012345678901234567890;");
        Bound.faulty(1, 11, "pay 1+999999;");
        Bound.faulty(1, 13, "pay min(000000,1);");
        Bound.faulty(1, 12, "cover (999990)=1;");
        Bound.faulty(1, 18, "cover office 000000;");
        Bound.faulty(1, 18, "cover office 4294967296;");
        Bound.sound(1, "pay 12345+67890;");
    }

    private static void faultOfOpenOnes() {
        Bound.of("13 fault", "3 the 7th ( [ not that is open at once, at it");
        Bound.sound(1, "pay " + Bound.times(6, "(") + "1" + Bound.times(6, ")") + ";");
        Bound.faulty(3, 10, "pay " + Bound.times(7, "(") + "1" + Bound.times(7, ")") + ";");
        Bound.faulty(3, 10, "pay " + Bound.times(7, "("));
        Bound.faulty(3, 11, "pay " + Bound.times(6, "(") + "\n" + "(");
        Bound.faulty(3, 10, "pay " + Bound.times(500, "("));
        Bound.sound(1, "cover " + Bound.times(6, "[") + "all" + Bound.times(6, "]") + ";");
        Bound.faulty(3, 12, "cover " + Bound.times(7, "[") + "all" + Bound.times(7, "]") + ";");
        Bound.faulty(3, 12, "cover " + Bound.times(500, "["));
        Bound.sound(1, "cover " + Bound.times(6, "not ") + "all;");
        Bound.faulty(3, 30, "cover " + Bound.times(7, "not ") + "all;");
        Bound.faulty(3, 30, "cover " + Bound.times(140, "not "));
        Bound.sound(1, "cover " + Bound.times(6, "(") + "1" + Bound.times(6, ")") + "=1;");
        Bound.faulty(3, 12, "cover " + Bound.times(7, "(") + "1" + Bound.times(7, ")") + "=1;");
    }

    private static void faultOfOpenMixed() {
        Bound.of("13 fault", "3 the 7th ( [ not that is open at once: those of all kinds, of min, max too");
        Bound.sound(1, "cover not [not [(min(1,2))=1]];");
        Bound.faulty(3, 18, "cover not [not [(((1)))=1]];");
        Bound.faulty(3, 21, "cover not [not [((max(1,2)))=1]];");
        Bound.sound(1, "pay (((((max(1,2))))));");
        Bound.faulty(3, 13, "pay ((((((max(1,2)))))));");
        Bound.sound(1, "pay " + Bound.times(6, "min(1,") + "1" + Bound.times(6, ")") + ";");
        Bound.faulty(3, 43, "pay " + Bound.times(7, "min(1,") + "1" + Bound.times(7, ")") + ";");
        Bound.sound(1, "pay " + Bound.times(6, "max(") + "1" + Bound.times(6, ",1)") + ";");
        Bound.faulty(3, 31, "pay " + Bound.times(7, "max(") + "1" + Bound.times(7, ",1)") + ";");
        Bound.faulty(3, 30, "pay " + Bound.times(6, "max(") + "1+(1");
        Bound.faulty(3, 30, "cover not not not not not not [all];");
        Bound.faulty(3, 30, "cover not not not not not not (1)=1;");
        Bound.faulty(3, 34, "cover not not not not not not 1 = (1);");
        Bound.faulty(3, 12, "cover [[[[[[(1)=1]]]]]];");
        Bound.faulty(3, 12, "cover [[[[[[not all]]]]]];");
        Bound.of("13 fault", "a ( or [ or not with which no TERMS go on is 1, open ones or not");
        Bound.faulty(1, 11, "pay ((((((1(");
        Bound.faulty(1, 10, "pay ((((((not all");
        Bound.faulty(1, 10, "pay (((((([1");
        Bound.faulty(1, 15, "cover [[[[[[all[");
        Bound.faulty(1, 13, "cover [[[[[[ ]");
    }

    private static void openUntilItsEnd() {
        Bound.of("13 fault", "(not until its FACT ends)");
        String nots = Bound.times(6, "not ");
        Bound.sound(1, "cover " + nots + "all and " + nots + "all or " + nots + "all;");
        Bound.sound(1, "cover " + nots + "1=1 and " + nots + "office 3 and ((((((1))))))=1;");
        Bound.sound(1, "cover " + Bound.times(5, "not ") + "(1)=(1) or [[[[[[all]]]]]];");
        Bound.faulty(3, 31, "cover " + Bound.times(5, "not ") + "1+1=((1));");
        Bound.sound(1, "cover not [" + Bound.times(4, "not ") + "all and " + Bound.times(4, "not ") + "all];");
        Bound.faulty(3, 51, "cover not [" + Bound.times(4, "not ") + "all and " + Bound.times(5, "not ") + "all];");
        Bound.of("13 fault", "( and [ are open until they are closed");
        Bound.sound(1, "pay " + Bound.times(20, "((((((1)))))) + ") + "1;");
        Bound.sound(1, "pay (((((1)+(1))+(1))+(1))+(1))+(1);");
        Bound.sound(1, "cover [[[[[[all] and [all]] and [all]]]]] and [[[[[[all]]]]]];");
        Bound.sound(2, "pay ((((((1))))));pay ((((((1))))));");
        Bound.faulty(3, 18, "pay (((((1)+((1)+((1))");
    }

    private static void faultOfManyStatements() {
        Bound.of("13 fault", "4 a 25th STATEMENT (whatever stands there), at its first byte");
        Bound.sound(24, MANY);
        Bound.sound(24, MANY + " \n ");
        for (String what : new String[] {"pay 1;", "pay", "p", "?", ";", "(", "123456", "\u00ff", "\t"}) {
            Bound.faulty(4, 144, MANY + what);
            Bound.faulty(4, 147, MANY + " \n " + what);
        }
        Bound.sound(23, MANY.substring(6));
        Bound.faulty(1, 143, MANY.substring(0, 143));
        Bound.faulty(1, 142, MANY.substring(0, 142));
        Bound.faulty(1, 3, "pay;" + MANY);
        Bound.faulty(4, 599, MANY + Bound.times(455, " ") + "x");
    }

    private static void faultsAlongTheText() {
        Bound.of("13 fault", "FAULTS, the first along the text");
        Bound.faulty(2, 13, "cover office 9;pay (((((((1;" + MANY + MANY);
        Bound.faulty(3, 10, "pay (((((((1; cover office 9;" + MANY);
        Bound.faulty(1, 4, "pay ?; cover office 9; pay (((((((1;" + MANY);
        Bound.faulty(4, 144, MANY + "cover office 9;");
        Bound.faulty(4, 144, MANY + "pay (((((((1;");
        Bound.faulty(2, 151, MANY.substring(6) + "cover office 9;x");
        Bound.faulty(3, 12, "cover ((((((((1");
        Bound.faulty(1, 12, "pay 1;pay 2+;pay 123456;");
    }

    private static void fullTapes() {
        Bound.of("12 terms, 13 fault", "texts of up to 600 bytes");
        String longest = "pay 1" + Bound.times(297, "+1") + ";";
        Bound.due(600, longest.length(), "its length");
        Bound.sound(1, longest);
        Bound.faulty(1, 600, longest.substring(0, 599) + " ");
        Bound.faulty(1, 599, longest.substring(0, 599) + "?");
        Bound.faulty(1, 599, longest.substring(0, 599) + ")");
        Bound.faulty(1, 600, longest.substring(0, 599) + "1");
        Bound.faulty(1, 600, longest.substring(0, 599) + "+");
        Bound.faulty(1, 600, "pay  1" + Bound.times(295, "+1") + "+sum");
        Bound.faulty(1, 597, "pay  1" + Bound.times(295, "+1") + "+sun");
        Bound.faulty(1, 599, Bound.times(599, " ") + "x");
        Bound.faulty(1, 600, Bound.times(595, " ") + "cover");
        Bound.sound(24, MANY + Bound.times(456, "\n"));
        PlateCity x = Bound.row(1, 0, 0);
        Bound.tell(x, 0, "premium 1" + Bound.times(295, "+1") + ";");
        x.policy(0, 0, 1);
        Bound.due(296, x.premium(2), "a premium of 296 ones");
        Bound.tell(x, 0, "premium 1" + Bound.times(98, "-2*3+7") + ";");
        Bound.due(99, x.premium(2), "a premium of 197 products");
        Bound.tell(x, 0, "help 1=2" + Bound.times(65, " or 1=2") + " or 1=1;");
        Bound.due(1, x.helps(0), "the last of 67 facts");
    }

    private static void cutTapes() {
        Bound.of("3 end, 13 fault", "The tape has its first n bytes alone: what stood behind them is not read");
        String[] texts = {"cover all;pay 7;", "cover office 89;", "pay 1234567;", "coverall;", "pay 1 + losses;"};
        int[] ends = {10, 14, 8, 5, 12};
        int[] faults = {0, 1, 1, 1, 1};
        int[] places = {-1, 14, 8, 5, 12};
        for (int i = 0; i < texts.length; i++) {
            PlateCity x = new PlateCity();
            Bound.tape(x, texts[i]);
            Bound.yes(x.end(ends[i]), "the first " + ends[i] + " bytes of " + texts[i]);
            Bound.due(faults[i] == 0 ? 1 : -1, x.terms(0), "terms");
            Bound.due(faults[i], x.fault(0), "fault in the first " + ends[i] + " bytes of " + texts[i]);
            Bound.due(places[i], x.fault(1), "place in the first " + ends[i] + " bytes of " + texts[i]);
        }
        PlateCity x = new PlateCity();
        Bound.tape(x, "pay 1;pay 2;pay 3;pay 4;");
        x.terms(0);
        Bound.due(2, Bound.tell(x, 1, "pay 5;"), "a shorter text behind a longer one");
        Bound.due(1, x.force(1), "its one statement");
        x.feed(0x70617920, 0x313b2020, 0x20202020, 0x20202020, 0x20202020);
        x.end(5);
        Bound.due(-1, x.terms(1), "pay 1");
        Bound.due(5, x.fault(1), "the text's length");
    }

    private static void termsTakeTheTape() {
        Bound.of("12 terms", "The tape (it goes) is the TERMS of an OFFICE: their ACT");
        PlateCity x = new PlateCity();
        for (int act = 1; act <= 9; act++) {
            Bound.due(act, Bound.tell(x, act - 1, Bound.times(act, "pay 1;")), "the act");
            Bound.no(x.end(1), "a byte on the tape");
            Bound.due(act, x.force(act - 1), "force");
            Bound.due(act, x.all(3), "acts");
        }
        Bound.due(10, x.terms(0), "an empty tape");
        Bound.due(0, x.force(0), "force");
        Bound.of("12 terms", "NONE with a FAULT (the tape goes, the TERMS of before stay)");
        Bound.due(-1, Bound.tell(x, 8, "pay 1;pay"), "a fault");
        Bound.no(x.end(1), "a byte on the tape");
        Bound.due(9, x.force(8), "force");
        Bound.due(10, x.all(3), "acts");
    }

    private static void termsRefused() {
        Bound.of("12 terms", "-2 when there is no such OFFICE");
        Bound.between(0, 8, n -> new PlateCity().terms(n) == 1, "office");
        for (int office : new int[] {-1, 9, Bound.LEAST, Bound.MOST}) {
            PlateCity x = new PlateCity();
            Bound.due(-2, Bound.tell(x, office, "cover all;"), "terms of no office");
            Bound.due(-2, Bound.tell(x, office, "?"), "terms of no office, with a fault");
            Bound.due(0, x.all(3), "acts");
        }
        Bound.of("12 terms, 13 fault", "(no text is read then)");
        PlateCity x = new PlateCity();
        Bound.tell(x, 9, "x");
        Bound.due(0, x.fault(0), "fault, ahead of any");
        Bound.due(-1, x.fault(1), "its place, ahead of any");
        Bound.tell(x, 0, "pay 1;x");
        Bound.tell(x, -1, "pay 1;");
        Bound.due(1, x.fault(0), "fault, of the latest that read one");
        Bound.due(6, x.fault(1), "its place");
        Bound.tell(x, 9, "cover office 9;");
        Bound.due(1, x.fault(0), "fault, of the latest that read one");
    }

    private static void termsRefusedByActs() {
        Bound.of("12 terms", "-2 when there are 200 (no text is read then)");
        PlateCity x = Bound.row(1, 0, 0);
        for (int act = 1; act <= 198; act++) {
            x.policy(0, 0, 1);
        }
        Bound.due(199, Bound.tell(x, 0, "pay 1;"), "the 199th act");
        Bound.due(-1, Bound.tell(x, 0, "pay;"), "a fault");
        Bound.due(200, Bound.tell(x, 1, "pay 1;pay 2;"), "the 200th act");
        Bound.due(0, x.fault(0), "fault");
        Bound.due(-2, Bound.tell(x, 0, "pay 1;pay 2;pay 3;"), "there are 200");
        Bound.due(1, x.force(0), "force");
        Bound.due(-2, Bound.tell(x, 0, "pay;"), "there are 200");
        Bound.due(0, x.fault(0), "fault, of the latest that read one");
        Bound.due(-1, x.fault(1), "its place");
        Bound.due(200, x.all(3), "acts");
    }

    private static void faultWhats() {
        Bound.of("13 fault", "NONE for another what");
        PlateCity x = new PlateCity();
        Bound.tell(x, 0, "  pay;");
        Bound.due(1, x.fault(0), "what 0");
        Bound.due(5, x.fault(1), "what 1");
        for (int what : new int[] {-1, 2, Bound.LEAST, Bound.MOST}) {
            Bound.due(-1, x.fault(what), "what " + what);
        }
        Bound.of("13 fault", "(0; 0 without, and ahead of any), its place (1; NONE without)");
        PlateCity y = new PlateCity();
        Bound.due(0, y.fault(0), "ahead of any");
        Bound.due(-1, y.fault(1), "ahead of any");
        Bound.tell(y, 0, "pay 1;");
        Bound.due(0, y.fault(0), "without");
        Bound.due(-1, y.fault(1), "without");
    }

    private static void faultOfTheLatest() {
        Bound.of("13 fault", "Of the latest terms() that read a text");
        PlateCity x = new PlateCity();
        Bound.tell(x, 0, "cover office 9;");
        Bound.due(2, x.fault(0), "the first text's");
        Bound.tell(x, 1, "pay ((((((((1");
        Bound.due(3, x.fault(0), "the second text's");
        Bound.due(10, x.fault(1), "its place");
        Bound.tell(x, 2, MANY + "x");
        Bound.due(4, x.fault(0), "the third text's");
        Bound.due(144, x.fault(1), "its place");
        Bound.tell(x, 3, "cover all;");
        Bound.due(0, x.fault(0), "the fourth text has none");
        Bound.due(-1, x.fault(1), "it has none");
        Bound.tell(x, 3, "x");
        x.feed(0x20202020, 0x20202020, 0x20202020, 0x20202020, 0x20202020);
        Bound.due(1, x.fault(0), "what is on the tape since is not read");
        Bound.due(0, x.fault(1), "its place");
    }
}
