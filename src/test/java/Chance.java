/** Draws the same numbers and texts for the same seed. */
final class Chance {
    private static final String SIGNS = "rrrsssooo0123456123456789--;;;; x7";
    private long state;

    Chance(long seed) {
        state = seed * 0x9E3779B97F4A7C15L + 12345;
    }

    int below(int bound) {
        state = state * 6364136223846793005L + 1442695040888963407L;
        return (int) ((state >>> 33) % bound);
    }

    int between(int least, int most) {
        return least + below(most - least + 1);
    }

    /** Mostly an index below the bound, now and then one just outside. */
    int near(int bound) {
        return below(12) == 0 ? between(-1, bound) : below(Math.max(1, bound));
    }

    String wild() {
        StringBuilder text = new StringBuilder();
        for (int i = between(0, 12); i > 0; i--) {
            text.append(SIGNS.charAt(below(SIGNS.length())));
        }
        return text.toString();
    }

    /** A text that can mostly be loaded; the fuller the desk is, the fewer parts. */
    String text(int parts) {
        StringBuilder text = new StringBuilder();
        for (int i = between(1, Math.max(1, 11 - parts)); i > 0; i--) {
            text.append(text.length() > 0 ? ";" : "").append(onePart());
        }
        return text.substring(0, Math.min(60, text.length()));
    }

    private String onePart() {
        // Few nodes make circuits that hang together.
        int nodes = below(3) == 0 ? 6 : 4;
        int first = between(0, nodes);
        int second = (first + between(1, nodes)) % (nodes + 1);
        int kind = below(9);
        if (kind < 5) {
            return "r" + first + second + between(1, 4);
        }
        if (kind < 7) {
            return "s" + between(1, nodes) + (below(2) == 0 ? between(-20, 20) : between(-200, 200));
        }
        int output = between(1, nodes);
        boolean clash = output == first || output == second;
        return clash && below(8) != 0 ? onePart() : "o" + first + second + output;
    }
}
