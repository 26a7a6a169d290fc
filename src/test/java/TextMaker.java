import java.util.Random;

/** Texts of PROGRAMS: right ones, deep ones, and such with one spot spoiled. */
final class TextMaker {
    private final Random random;
    private StringBuilder out;
    private int mostDepth;
    private int mostParens;

    TextMaker(Random random) {
        this.random = random;
    }

    String text() {
        out = new StringBuilder();
        mostDepth = random.nextInt(6) == 0 ? 7 : 4;
        mostParens = random.nextInt(6) == 0 ? 11 : 3;
        int pick = random.nextInt(12);
        if (pick < 3) {
            out.append("for ").append(50 + random.nextInt(150)).append(" [put i*").append(random.nextInt(40))
                .append("+").append(random.nextInt(500)).append(" as i%7;];");
        } else {
            int statements = random.nextInt(pick == 4 ? 30 : 5);
            for (int n = 0; n < statements && out.length() < 560; n++) {
                statement(0);
            }
        }
        if (random.nextInt(20) == 0) {
            deep();
        }
        String text = out.toString();
        if (random.nextInt(3) == 0) {
            text = spoiled(text);
        }
        int most = random.nextInt(30) == 0 ? 640 : 600;
        return text.length() > most ? text.substring(0, most) : text;
    }

    private void deep() {
        int opened = 4 + random.nextInt(4);
        for (int n = 0; n < opened; n++) {
            boolean rounds = random.nextBoolean();
            out.append(rounds ? "for " : "if ").append(random.nextInt(8) == 0 ? 201 : 1 + random.nextInt(3));
            if (!rounds && random.nextInt(5) == 0) {
                out.append("+");
                parens(7 + random.nextInt(4));
            }
            out.append("[");
        }
        out.append("let ");
        parens(random.nextInt(11));
        out.append(";");
        for (int n = 0; n < opened; n++) {
            out.append("];");
        }
    }

    private void parens(int n) {
        out.append("(".repeat(n)).append(random.nextInt(10)).append(")".repeat(n));
    }

    private void blank() {
        int pick = random.nextInt(8);
        if (pick == 0) {
            out.append(' ');
        } else if (pick == 1) {
            out.append('\n');
        }
    }

    private void word(String word) {
        if (out.length() > 0 && Character.isLetterOrDigit(out.charAt(out.length() - 1))) {
            out.append(' ');
        }
        out.append(word);
    }

    private void sign(String sign) {
        blank();
        out.append(sign);
        blank();
    }

    private void statement(int depth) {
        int pick = random.nextInt(depth < mostDepth ? 12 : 8);
        blank();
        if (pick < 3) {
            word("put");
            sum(0);
            word("as");
            sum(0);
        } else if (pick < 5) {
            word("drop");
            sum(0);
        } else if (pick < 7) {
            word("get");
            sum(0);
        } else if (pick < 8) {
            word("let");
            sum(0);
        } else {
            boolean rounds = pick < 10;
            word(rounds ? "for" : "if");
            if (rounds) {
                word(Integer.toString(rounds()));
            } else {
                sum(0);
            }
            sign("[");
            int inside = random.nextInt(4);
            for (int n = 0; n < inside && out.length() < 520; n++) {
                statement(depth + 1);
            }
            sign("]");
        }
        sign(";");
    }

    private int rounds() {
        int pick = random.nextInt(20);
        return pick == 0 ? 201 + random.nextInt(999000) : pick == 1 ? 200 : pick == 2 ? 0 : pick == 3 ? 100 : random.nextInt(12);
    }

    private void sum(int depth) {
        unit(depth);
        while (random.nextInt(3) == 0 && out.length() < 560) {
            sign(String.valueOf("+-*/%".charAt(random.nextInt(5))));
            unit(depth);
        }
    }

    private void unit(int depth) {
        int pick = random.nextInt(12);
        if (pick < 5) {
            word(Integer.toString(number()));
        } else if (pick < 8) {
            word("i");
        } else if (pick < 9) {
            word("x");
        } else if (depth < mostParens && out.length() < 540) {
            sign("(");
            sum(depth + 1);
            sign(")");
        } else {
            word("0");
        }
    }

    private int number() {
        int pick = random.nextInt(10);
        return pick == 0 ? random.nextInt(1000000) : pick == 1 ? 999999 : random.nextInt(pick < 6 ? 60 : 4);
    }

    private String spoiled(String text) {
        if (text.isEmpty()) {
            return random.nextBoolean() ? text : String.valueOf((char) random.nextInt(256));
        }
        int at = random.nextInt(text.length());
        String bits = "putasdropgetletforifix0123456789+-*/%()[]; \n";
        char other = random.nextInt(10) == 0 ? (char) random.nextInt(256) : bits.charAt(random.nextInt(bits.length()));
        switch (random.nextInt(5)) {
            case 0: return text.substring(0, at);
            case 1: return text.substring(0, at) + text.substring(at + 1);
            case 2: return text.substring(0, at) + other + text.substring(at + 1);
            case 3: return text.substring(0, at) + other + text.substring(at);
            default: return text.replaceFirst("[ \n]", "");
        }
    }
}
