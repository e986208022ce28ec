/** Compares answers with those that are due, and ends the machine with exit code 1 if one was wrong. */
final class Check {
    private static int wrong = 0;
    private static int asked = 0;
    private static String about = "";

    private Check() {
    }

    static void about(String promise) {
        about = promise;
    }

    static void due(String call, long got, long want) {
        asked++;
        if (got != want) {
            wrong++;
            System.out.println(about + ": " + call + " answered " + got + ", due is " + want);
        }
    }

    static void same(String call, int[] got, int[] want) {
        due(call + ", how many numbers", got.length, want.length);
        for (int i = 0; i < Math.min(got.length, want.length); i++) {
            due(call + ", number " + i, got[i], want[i]);
        }
    }

    /** Appends a text of any length to the pad, eight characters at a time. */
    static void type(SingingWires x, String text) {
        for (int from = 0; from < text.length(); from += 8) {
            String part = text.substring(from, Math.min(from + 8, text.length()));
            x.put(packed(part));
        }
    }

    static long packed(String part) {
        long characters = 0;
        for (int i = 0; i < part.length(); i++) {
            characters = characters << 8 | part.charAt(i);
        }
        return characters;
    }

    static void end() {
        System.out.println(asked + " answers, " + wrong + " of them wrong");
        if (wrong != 0) {
            System.exit(1);
        }
    }
}
