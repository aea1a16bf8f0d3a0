/** Counts the answers that are not as due, and makes objects from texts. */
final class Due {
    private int asked = 0;
    private int wrong = 0;

    void is(String call, long got, long want) {
        asked++;
        if (got != want) {
            wrong++;
            if (wrong <= 40) {
                System.out.println(call + " answered " + got + ", due is " + want);
            }
        }
    }

    void end() {
        System.out.println(asked + " answers, " + wrong + " not as due");
        if (wrong != 0 || asked == 0) {
            System.exit(1);
        }
    }

    static OnlySideways with(String shapes, String house) {
        OnlySideways x = new OnlySideways();
        typeAll(x, 0, shapes);
        typeAll(x, 1, house);
        return x;
    }

    static void typeAll(OnlySideways x, int text, String bytes) {
        for (int i = 0; i < bytes.length(); i++) {
            x.type(text, bytes.charAt(i));
        }
    }
}
