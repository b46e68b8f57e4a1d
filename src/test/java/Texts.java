import java.util.Random;

/** Random TEXTS by the grammar, and such that have a FAULT. */
final class Texts {
    private static final String[] TURNS = {"ahead", "left", "right", "back", "stop"};
    private static final String[] UNITS = {"fl", "fr", "pl", "pr", "thread", "rim", "step", "rest", "swallow"};
    private static final String[] PIECES = {"ahead", "left", "right", "back", "stop", "when", "or", "and", "not",
        "fl", "fr", "thread", "rim", ";", "+", "-", "*", "/", "(", ")", "<", "=", ">", "0", "00", "12345", "7", "X",
        "leftt", "#", "\t", " ", "\n", "\u00e9", "not(", "/0", "((((", "))))"};

    private final Random random;

    Texts(Random random) {
        this.random = random;
    }

    /** A good HABIT that leads somewhere: few lines, and seldom a stop. */
    String habit() {
        StringBuilder sb = new StringBuilder();
        for (int i = random.nextInt(5); i > 0; i--) {
            String turn = TURNS[random.nextInt(random.nextInt(6) == 0 ? 5 : 4)];
            sb.append(turn).append(blank(true)).append("when ").append(either(0)).append(";").append(blank(false));
        }
        sb.append(random.nextInt(3) == 0 ? TURNS[random.nextInt(3)] + ";" : "");
        return sb.length() > 400 ? "left when rim=1;" : sb.toString();
    }

    String any() {
        String text = switch (random.nextInt(6)) {
            case 0 -> lines(14 + random.nextInt(5));
            case 1 -> "left when " + nested(6 + random.nextInt(5)) + ";";
            case 2 -> pieces();
            default -> habit();
        };
        if (random.nextInt(3) == 0 && !text.isEmpty()) {
            int at = random.nextInt(text.length());
            String piece = random.nextInt(4) == 0 ? "" : PIECES[random.nextInt(PIECES.length)];
            text = text.substring(0, at) + piece + text.substring(at + random.nextInt(2));
        }
        return text.length() > 400 ? text.substring(0, 400) : text;
    }

    private String lines(int count) {
        StringBuilder sb = new StringBuilder();
        for (int i = 0; i < count; i++) {
            sb.append(TURNS[random.nextInt(5)]).append(random.nextInt(4) == 0 ? " when rim=1;" : ";");
        }
        return sb.toString();
    }

    private String nested(int open) {
        if (open == 0) {
            return "1=1";
        }
        return switch (random.nextInt(5)) {
            case 0 -> "fl>3 and not " + nested(open - 1);
            case 1 -> "(not rim=1 or " + nested(open - 1) + ")";
            case 2 -> "not " + nested(open - 1);
            case 3 -> "(" + nested(open - 1) + ") and not 1=2";
            default -> "(" + nested(open - 1) + ")";
        };
    }

    private String pieces() {
        StringBuilder sb = new StringBuilder();
        for (int i = random.nextInt(12); i > 0; i--) {
            sb.append(PIECES[random.nextInt(PIECES.length)]).append(blank(false));
        }
        return sb.toString();
    }

    private String either(int depth) {
        String a = both(depth);
        return random.nextInt(4) == 0 ? a + " or " + both(depth) : a;
    }

    private String both(int depth) {
        String a = condition(depth);
        return random.nextInt(4) == 0 ? a + " and " + condition(depth) : a;
    }

    private String condition(int depth) {
        int kind = random.nextInt(8);
        if (kind == 0 && depth < 4) {
            return "not " + condition(depth + 1);
        }
        if (kind == 1 && depth < 4) {
            return "(" + blank(false) + either(depth + 1) + ")";
        }
        return sum() + blank(false) + "<=>".charAt(random.nextInt(3)) + blank(false) + sum();
    }

    private String sum() {
        String sum = product();
        for (int i = random.nextInt(3); i > 1; i--) {
            sum += (random.nextBoolean() ? "+" : "-") + product();
        }
        return sum;
    }

    private String product() {
        String product = unit();
        for (int i = random.nextInt(8); i > 4; i--) {
            product += random.nextBoolean() ? "*" + unit() : "/" + (1 + random.nextInt(9));
        }
        return product;
    }

    private String unit() {
        return switch (random.nextInt(4)) {
            case 0 -> String.valueOf(random.nextInt(random.nextBoolean() ? 10 : 60));
            case 1 -> random.nextInt(8) == 0 ? String.valueOf(random.nextInt(10000)) : "2";
            default -> UNITS[random.nextInt(UNITS.length)];
        };
    }

    private String blank(boolean must) {
        return must || random.nextInt(4) == 0 ? (random.nextInt(5) == 0 ? "\n" : " ") : "";
    }
}
