/** What the tests share: answers that are due, and texts told to an object. */
final class Due {
    private static int asked;
    private static int wrong;
    private static String about = "";

    private Due() {
    }

    static void topic(String name) {
        about = name;
    }

    static void is(String call, long got, long due) {
        asked++;
        if (got != due) {
            wrong++;
            System.out.println(about + ": " + call + " answered " + got + ", due is " + due);
        }
    }

    static void is(String call, boolean got, boolean due) {
        is(call, got ? 1 : 0, due ? 1 : 0);
    }

    /** What lies there is just this. */
    static void lying(AyeJars x, int... due) {
        is("about(13)", x.about(13), due.length);
        for (int i = 0; i < due.length; i++) {
            is("lies(" + i + ")", x.lies(i), due[i]);
        }
        is("lies(-1)", x.lies(-1), -2);
        is("lies(" + due.length + ")", x.lies(due.length), -2);
    }

    static void fraction(String call, int upper, int lower, int dueUpper, int dueLower) {
        is(call + " upper part", upper, dueUpper);
        is(call + " lower part", lower, dueLower);
    }

    static void feed(AyeJars x, String text) {
        int before = x.about(11);
        for (int i = 0; i < text.length(); i += 20) {
            int[] n = new int[5];
            for (int j = 0; j < 20; j++) {
                n[j / 4] = n[j / 4] << 8 | (i + j < text.length() ? text.charAt(i + j) & 255 : 32);
            }
            x.feed(n[0], n[1], n[2], n[3], n[4]);
        }
        is("end behind a text", x.end(before + text.length()), before + text.length());
    }

    static AyeJars house(String text) {
        AyeJars x = new AyeJars();
        feed(x, text);
        is("house of " + text, x.house() >= 0, true);
        return x;
    }

    /** The text has this fault; all stays but what fault() tells. */
    static void fault(String text, int kind, int place) {
        AyeJars x = new AyeJars();
        feed(x, text);
        String call = text.length() > 70 ? text.substring(0, 70) + ".." : text;
        is("house of " + call, x.house(), -1);
        is("fault of " + call, x.fault(0), kind);
        is("its place in " + call, x.fault(1), place);
        is("the tape stays", x.about(11), text.length());
    }

    static void days(AyeJars x, int n) {
        for (int i = 0; i < n; i++) {
            x.day();
        }
    }

    static void close(String name) {
        System.out.println(name + ": " + asked + " answers, " + wrong + " wrong");
        if (wrong != 0) {
            System.exit(1);
        }
    }
}
