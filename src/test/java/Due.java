/** Prints every answer that is not the one that is due, and ends a test with exit code 1 if there was one. */
final class Due {
    private static final int SECONDS = 300;

    private final String test;
    private int asked = 0;
    private int wrong = 0;

    Due(String test) {
        this.test = test;
        Thread watch = new Thread(this::giveUp);
        watch.setDaemon(true);
        watch.start();
    }

    /** A call that fails to end fails the test, too. */
    private void giveUp() {
        try {
            Thread.sleep(SECONDS * 1000L);
        } catch (InterruptedException e) {
            return;
        }
        System.out.println(test + ": it did not end within " + SECONDS + " seconds");
        System.out.flush();
        Runtime.getRuntime().halt(1);
    }

    void is(String call, long got, long want) {
        asked++;
        if (got != want) {
            wrong++;
            System.out.println(test + ": " + call + " answered " + got + ", due is " + want);
        }
    }

    void holds(String what, boolean so) {
        asked++;
        if (!so) {
            wrong++;
            System.out.println(test + ": " + what + " does not hold");
        }
    }

    void finish() {
        System.out.println(test + ": " + asked + " answers looked at, " + wrong + " wrong");
        if (wrong != 0 || asked == 0) {
            System.exit(1);
        }
    }

    /** Types a text anew and reads it. */
    static int read(VetoHouse x, String text) {
        x.clear();
        for (int i = 0; i < text.length(); i++) {
            x.type(text.charAt(i));
        }
        return x.read();
    }

    /** All refusals so far: BAD by 10000, NO by 100, FULL by 1. */
    static int refused(VetoHouse x) {
        return 10000 * x.status(0) + 100 * x.status(1) + x.status(2);
    }
}
