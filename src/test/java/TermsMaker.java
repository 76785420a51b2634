import java.util.Random;

/** Draws texts of terms: most without a fault, some with one bent in. */
final class TermsMaker {
    private static final String[] WORDS = {"cover", "void", "help", "pay", "premium", "beside", "first", "parts",
        "after", "not", "all", "office", "wall", "trade", "worth", "sum", "loss", "others", "near", "min", "max",
        "and", "or", "(", ")", "[", "]", ",", ";", "<", ">", "=", "+", "-", "*", "/", "7", "12345", "123456", "x",
        "9", "covers", "al"};

    private final Random random;
    private final StringBuilder text = new StringBuilder();
    private final boolean tight;

    TermsMaker(Random random) {
        this.random = random;
        tight = random.nextBoolean();
    }

    String make() {
        int many = random.nextInt(12) == 0 ? 22 + random.nextInt(5) : random.nextInt(7);
        boolean plain = many > 20;
        if (random.nextBoolean()) {
            put("cover");
            put("all");
            put(";");
        }
        for (int i = 0; i < many; i++) {
            statement(plain);
        }
        if (random.nextBoolean()) {
            share(random.nextBoolean() ? "pay" : "premium");
        }
        blank();
        if (random.nextInt(3) == 0) {
            bend();
        }
        if (text.length() > 600) {
            text.setLength(600);
        }
        return text.toString();
    }

    private void share(String word) {
        put(word);
        put(word.equals("pay") ? "loss" : "worth");
        put("*");
        put("" + random.nextInt(20));
        put("/");
        put("" + random.nextInt(20));
        put(";");
    }

    private void blank() {
        for (int i = random.nextInt(4); i == 0; i = random.nextInt(4)) {
            text.append(random.nextBoolean() ? ' ' : '\n');
        }
    }

    private void put(String word) {
        blank();
        if (text.length() > 0 && solid(text.charAt(text.length() - 1)) && solid(word.charAt(0))
            && random.nextInt(200) > 0) {
            text.append(random.nextInt(8) > 0 ? ' ' : '\n');
        } else if (!tight) {
            text.append(' ');
        }
        text.append(word);
    }

    private static boolean solid(char sign) {
        return Character.isLetterOrDigit(sign);
    }

    private void bend() {
        for (int i = random.nextInt(2); i >= 0; i--) {
            int at = random.nextInt(text.length() + 1);
            switch (random.nextInt(6)) {
                case 0 -> text.insert(at, WORDS[random.nextInt(WORDS.length)]);
                case 1 -> text.insert(at, " " + WORDS[random.nextInt(WORDS.length)] + " ");
                case 2 -> text.insert(at, (char) random.nextInt(256));
                case 3 -> text.setLength(at);
                case 4 -> text.delete(at, Math.min(text.length(), at + 1 + random.nextInt(3)));
                default -> text.insert(at, "0123456789".charAt(random.nextInt(10)));
            }
        }
    }

    private void statement(boolean plain) {
        switch (plain ? 2 + random.nextInt(2) : random.nextInt(10)) {
            case 0, 1, 2 -> {
                put(random.nextInt(5) > 0 ? "cover" : "help");
                if (plain || random.nextInt(3) == 0) {
                    put("all");
                } else {
                    test(0);
                }
            }
            case 3 -> {
                put("beside");
                put(new String[] {"first", "parts", "after"}[random.nextInt(3)]);
            }
            case 4 -> {
                put("void");
                test(0);
            }
            case 5, 6, 7 -> {
                put("pay");
                sum(0);
            }
            default -> {
                put(random.nextBoolean() ? "premium" : "help");
                if (text.charAt(text.length() - 1) == 'm') {
                    sum(0);
                } else {
                    test(0);
                }
            }
        }
        put(";");
    }

    private void test(int deep) {
        both(deep);
        while (random.nextInt(4) == 0) {
            put("or");
            both(deep);
        }
    }

    private void both(int deep) {
        fact(deep);
        while (random.nextInt(4) == 0) {
            put("and");
            fact(deep);
        }
    }

    private void fact(int deep) {
        int nest = deep < 6 || random.nextInt(10) == 0 ? 10 : 6;
        switch (random.nextInt(nest)) {
            case 0 -> put("all");
            case 1, 2 -> {
                put("office");
                put("" + (random.nextInt(40) == 0 ? random.nextInt(100) : random.nextInt(9)));
            }
            case 6, 7 -> {
                put("not");
                fact(deep + 1);
            }
            case 8, 9 -> {
                put("[");
                test(deep + 1);
                put("]");
            }
            default -> {
                sum(deep);
                put(new String[] {"<", ">", "="}[random.nextInt(3)]);
                sum(deep);
            }
        }
    }

    private void sum(int deep) {
        product(deep);
        while (random.nextInt(3) == 0) {
            put(random.nextBoolean() ? "+" : "-");
            product(deep);
        }
    }

    private void product(int deep) {
        part(deep);
        while (random.nextInt(3) == 0) {
            put(random.nextBoolean() ? "*" : "/");
            part(deep);
        }
    }

    private void part(int deep) {
        int nest = deep < 6 || random.nextInt(10) == 0 ? 13 : 10;
        switch (random.nextInt(nest)) {
            case 0, 1 -> put("" + random.nextInt(10));
            case 2 -> put("" + random.nextInt(100000));
            case 10 -> {
                put("(");
                sum(deep + 1);
                put(")");
            }
            case 11, 12 -> {
                put(random.nextBoolean() ? "min" : "max");
                put("(");
                sum(deep + 1);
                put(",");
                sum(deep + 1);
                put(")");
            }
            default -> put(new String[] {"wall", "trade", "worth", "sum", "loss", "others", "near"}[
                random.nextInt(7)]);
        }
    }
}
