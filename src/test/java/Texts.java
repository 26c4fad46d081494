import java.util.Random;

/** Makes texts of ranges and expressions, of 60 characters at most, that are mostly without a fault. */
final class Texts {
    private static final int MOST_SIGNS = 60;
    private static final int[] NUMBERS = {0, 0, 0, 1, 1, 1, 2, 2, 3, 5, 9, 10, 50, 98, 99};
    private static final String[] KINDS = {"<", "<=", ">", ">=", "=", "^", "~", "", "", ""};

    private Texts() {
    }

    static int version(Random random) {
        int prerelease = random.nextInt(2) == 0 ? 99 : number(random);
        return number(random) * 1000000 + number(random) * 10000 + number(random) * 100 + prerelease;
    }

    private static int number(Random random) {
        return NUMBERS[random.nextInt(NUMBERS.length)];
    }

    static String ofRange(Random random) {
        StringBuilder text = new StringBuilder(part(random));
        int more = random.nextInt(8);
        for (int i = 0; i < more; i++) {
            String next = (random.nextInt(3) == 0 ? " " : "|") + part(random);
            if (text.length() + next.length() <= MOST_SIGNS) {
                text.append(next);
            }
        }
        return text.toString();
    }

    private static String part(Random random) {
        switch (random.nextInt(8)) {
            case 0:
                return random.nextInt(4) == 0 ? "*" : number(random) + ".x";
            case 1:
                return number(random) + ".x";
            case 2:
                return number(random) + "." + number(random) + ".x";
            default:
                String prerelease = random.nextInt(3) == 0 ? "-" + Math.min(random.nextInt(8) == 0 ? 99 : 98, number(random)) : "";
                return KINDS[random.nextInt(KINDS.length)] + number(random) + "." + number(random) + "." + number(random)
                        + prerelease;
        }
    }

    static String ofExpression(Random random, int slots) {
        for (int tries = 0; tries < 100; tries++) {
            String text = sum(random, slots, random.nextInt(9));
            if (text.length() <= MOST_SIGNS) {
                return text;
            }
        }
        return "0";
    }

    private static String sum(Random random, int slots, int depth) {
        StringBuilder text = new StringBuilder(term(random, slots, depth));
        while (random.nextInt(3) == 0) {
            text.append('+').append(term(random, slots, depth));
        }
        return text.toString();
    }

    private static String term(Random random, int slots, int depth) {
        StringBuilder text = new StringBuilder(factor(random, slots, depth));
        while (random.nextInt(3) == 0) {
            text.append(random.nextBoolean() ? '&' : '-').append(factor(random, slots, depth));
        }
        return text.toString();
    }

    private static String factor(Random random, int slots, int depth) {
        int kind = depth == 0 ? 0 : random.nextInt(4);
        if (kind == 1) {
            return "!" + factor(random, slots, depth - 1);
        }
        return kind == 2 ? "(" + sum(random, slots, depth - 1) + ")" : String.valueOf(random.nextInt(slots));
    }
}
