/** Promises 25 to 27: rates, as floats. */
public final class RatesTest {
    public static void main(String[] args) {
        rate();
        formula();
        sharedRate();
        everyRate();
        Run.end();
    }

    private static void rate() {
        Run run = new Run("25 rate").calls("rate() = 0; rate() = 0f").times(100, "sum(1)").calls("rate() = 0f");
        for (int sent = 1; sent <= 100; sent++) {
            run.calls("send(1) = 0");
            run.due("rate()", run.object.rate(), Float.floatToIntBits((float) sent / 12f));
        }
        run.calls("rate() = 1090868565; reset(1,1,0); rate() = 0f");
    }

    private static void formula() {
        new Run("26 formula").calls("formula(0) = 1f; formula(1) = 0f; formula(2) = BAD; formula(-1) = BAD;"
                + " formula(MIN) = BAD; formula(MAX) = BAD; reset(2,4,0); formula(0) = 2f; formula(1) = 1.25f;"
                + " formula(2) = 0.6666667f; formula(3) = 0.25f; formula(4) = 0f; formula(5) = BAD; reset(5,6,7);"
                + " formula(0) = 5f; formula(1) = 2.5f; formula(3) = 0.75f; formula(6) = 0f; formula(7) = BAD;"
                + " reset(5,2,60); formula(0) = 2f; formula(1) = 0.5f; formula(2) = 0f; formula(3) = BAD");
    }

    private static void sharedRate() {
        new Run("27 sharedRate").calls("sharedRate() = 1f; reset(1,1,6); sharedRate() = 0.5f; reset(1,1,12);"
                + " sharedRate() = 0f; reset(1,6,60); sharedRate() = 0f; reset(2,2,0); sharedRate() = 2f; reset(2,2,12);"
                + " sharedRate() = 0.5f; reset(2,2,6); sharedRate() = 1.25f; reset(2,2,18); sharedRate() = 0.25f;"
                + " reset(2,2,24); sharedRate() = 0f; reset(2,2,25); sharedRate() = 0f");
    }

    /** All files, users, capacities and sizes, with the library's own bits. */
    private static void everyRate() {
        Run run = new Run("26 formula, 27 sharedRate, all");
        for (int n = 1; n <= 5; n++) {
            for (int k = 1; k <= 6; k++) {
                for (int c = 0; c <= 60; c++) {
                    run.object.reset(n, k, c);
                    for (int t = 0; t <= k; t++) {
                        run.due("formula(" + t + ")", run.object.formula(t), Float.floatToIntBits(formulaOf(n, k, t)));
                    }
                    run.due("sharedRate() of " + n + " " + k + " " + c, run.object.sharedRate(),
                            Float.floatToIntBits(shared(n, k, c)));
                }
            }
        }
    }

    private static float formulaOf(int n, int k, int t) {
        return (float) (sets(k, t + 1) - sets(k - Math.min(n, k), t + 1)) / (float) sets(k, t);
    }

    private static float shared(int n, int k, int c) {
        float x = Math.min((float) (k * c) / (float) (12 * n), (float) k);
        int t = (int) x;
        float y = x - (float) t;
        float a = formulaOf(n, k, t);
        return y == 0 ? a : a + y * (formulaOf(n, k, t + 1) - a);
    }

    private static int sets(int of, int size) {
        if (size > of) {
            return 0;
        }
        return size == 0 || size == of ? 1 : sets(of - 1, size - 1) + sets(of - 1, size);
    }
}
