import java.util.Random;

/** Lanes by draws, most of them without a fault. */
final class Texts {
    private static final String[] FACTS = {"same", "turn", "long", "worn", "weeks", "price", "purse"};

    private Texts() {
    }

    static String lane(Random draw) {
        StringBuilder text = new StringBuilder();
        int tunes = draw.nextInt(6);
        int houses = draw.nextInt(5);
        int noteKinds = 2 + draw.nextInt(6);
        if (draw.nextInt(3) != 0) {
            text.append("approval ").append(1 + draw.nextInt(3)).append(";");
        }
        for (int t = 0; t < tunes; t++) {
            text.append("tune ").append((char) ('a' + t)).append(" price ").append(draw.nextInt(draw.nextBoolean() ? 6 : 40));
            text.append(" notes");
            int notes = 3 + draw.nextInt(6);
            for (int i = 0; i < notes; i++) {
                text.append(' ').append(draw.nextInt(Math.min(7, noteKinds)));
            }
            text.append(";\n");
        }
        for (int h = 0; h < houses; h++) {
            text.append("house ").append((char) ('a' + h)).append(" at ").append(draw.nextInt(draw.nextBoolean() ? 10 : 100));
            text.append(" purse ").append(draw.nextInt(100)).append(" likes");
            for (int i = 0; i < 3; i++) {
                text.append(' ').append(draw.nextInt(Math.min(7, noteKinds)));
            }
            text.append(";");
        }
        if (draw.nextInt(3) != 0) {
            text.append("glad ").append(formula(draw, draw.nextInt(6))).append(";");
        }
        if (draw.nextInt(3) != 0) {
            text.append("hums ").append(draw.nextInt(101)).append(";");
        }
        if (draw.nextInt(3) != 0) {
            text.append("draw ").append(draw.nextInt(1000)).append(";");
        }
        return text.toString();
    }

    static String formula(Random draw, int depth) {
        if (depth <= 0) {
            return draw.nextInt(3) == 0 ? Integer.toString(draw.nextInt(draw.nextBoolean() ? 4 : 10000))
                    : FACTS[draw.nextInt(FACTS.length)];
        }
        switch (draw.nextInt(6)) {
            case 0:
                return "not " + formula(draw, depth - 1);
            case 1:
                return "(" + formula(draw, depth - 1) + ")";
            default:
                String[] signs = {"+", "-", "*", "/", "%", "<", ">", "=", " and ", " or "};
                return formula(draw, depth - 1) + signs[draw.nextInt(signs.length)] + formula(draw, depth - 1 - draw.nextInt(2));
        }
    }
}
