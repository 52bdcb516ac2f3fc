/** Promise 1: a new object is as told. */
public final class StartTest {
    public static void main(String[] args) {
        GaugeBounds x = new GaugeBounds();
        long[] told = {0, 1000, 500, 1000, 666, 100, 0, 0, 0, 0, GaugeBounds.NONE, GaugeBounds.NONE};
        for (int what = 0; what < told.length; what++) {
            Check.due("told(" + what + ")", x.told(what), told[what]);
        }
        Check.due("setting(0)", x.setting(0), 1);
        Check.due("setting(1)", x.setting(1), 10);
        for (int k = 0; k <= 10; k++) {
            Check.due("setting(" + (k + 2) + ")", x.setting(k + 2), 3000 + 100 * k);
        }
        Check.due("bands()", x.bands(), 0);
        for (int what = 0; what < 5; what++) {
            Check.due("refused(" + what + ")", x.refused(what), 0);
        }
        Check.due("clear()", x.clear(), 0);
        Check.due("does()", x.does(), -10);
        Check.due("back()", x.back(), GaugeBounds.NO);
        objectsAreApart();
        Check.end("StartTest");
    }

    private static void objectsAreApart() {
        GaugeBounds x = new GaugeBounds();
        GaugeBounds y = new GaugeBounds();
        x.curve(0, 7);
        x.passes(10, 20);
        x.loads(1, 1);
        x.type('p');
        x.told(99);
        Check.due("another object's digest()", y.digest(), new GaugeBounds().digest());
    }
}
