/** Counts answers and prints those that are not due. */
final class Checks {
    private final String name;
    private int made = 0;
    private int wrong = 0;

    Checks(String name) {
        this.name = name;
    }

    void due(String call, long got, long want) {
        made++;
        if (got != want) {
            wrong++;
            System.out.println(name + ": " + call + " answered " + got + ", due is " + want);
        }
    }

    void holds(String what, boolean is) {
        due(what, is ? 1 : 0, 1);
    }

    /** Every test ends with this: exit code 1 if an answer was wrong, or if nothing was asked. */
    void end() {
        System.out.println(name + ": " + made + " answers, " + wrong + " wrong");
        if (wrong != 0 || made == 0) {
            System.exit(1);
        }
    }

    static int rgb(int red, int green, int blue) {
        return 4096 * red + 64 * green + blue;
    }

    static void write(PaletteTurns palette, String text) {
        palette.clearText();
        for (char sign : text.toCharArray()) {
            palette.type(sign);
        }
    }

    static int perform(PaletteTurns palette, String text) {
        write(palette, text);
        return palette.perform();
    }
}
