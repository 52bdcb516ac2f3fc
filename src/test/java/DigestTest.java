import java.math.BigInteger;
import java.util.ArrayList;
import java.util.List;

/** Promise 23 (digest). */
public final class DigestTest {
    public static void main(String[] args) {
        GaugeBounds x = new GaugeBounds();
        Check.due("digest() of a new object", x.digest(), byGetters(x));
        x.passes(10, 20);
        x.rests(3700);
        x.loads(10, 3300);
        x.loads(-10, 3300);
        x.told(99);
        x.under(-1000);
        x.curve(0, 9999);
        Check.type(x, " ".repeat(121));
        x.offset(2);
        x.clings(11);
        x.curve(10, 4002);
        Check.due("digest()", x.digest(), byGetters(x));
        Check.due("digest() changes nothing", x.digest(), byGetters(x));
        Check.due("refused(0)", x.refused(0), 2);
        x.back();
        Check.due("digest() behind back()", x.digest(), byGetters(x));
        Check.end("DigestTest");
    }

    static long byGetters(GaugeBounds x) {
        List<Integer> all = new ArrayList<>();
        for (int what = 0; what <= 4; what++) {
            all.add(x.refused(what));
        }
        for (int what = 0; what <= 11; what++) {
            all.add(x.told(what));
        }
        for (int what = 0; what <= 12; what++) {
            all.add(x.setting(what));
        }
        all.add(x.bands());
        for (int sign = 0; sign <= 1; sign++) {
            for (int tenth = 0; tenth <= 10; tenth++) {
                all.add(x.band(sign, tenth, 0));
                all.add(x.band(sign, tenth, 1));
            }
        }
        for (int i = 1; i <= 3; i++) {
            all.add(x.lasts(i, 0));
            all.add(x.lasts(i, 1));
        }
        BigInteger h = BigInteger.valueOf(1690);
        for (int v : all) {
            h = h.multiply(BigInteger.valueOf(31)).add(BigInteger.valueOf(v));
        }
        Check.holds("so many values that h wraps around", h.bitLength() > 64);
        return h.longValue();
    }
}
