import java.math.BigInteger;

/** Who comes FIRST, in numbers that can't wrap around. */
final class Door {
    static final int NOBODY = -9;

    private Door() { }

    /** By how EAGER each of the THINGS is that CAN come; 0 for one that can not. */
    static int first(long z, long day, int... eager) {
        int together = 0;
        for (int e : eager) {
            together += e;
        }
        if (together == 0) {
            return NOBODY;
        }
        BigInteger x = BigInteger.valueOf(7919).multiply(BigInteger.valueOf(z))
            .add(BigInteger.valueOf(4253).multiply(BigInteger.valueOf(day))).add(BigInteger.ONE);
        int d = x.multiply(x).mod(BigInteger.valueOf(65521)).intValueExact() / 8;
        int place = d % together;
        int t = 0;
        while (place >= eager[t]) {
            place -= eager[t];
            t++;
        }
        return t;
    }

    /** Of z 0 .. 499 how many there are by which a THING comes FIRST. */
    static int draws(int t, long day, int... eager) {
        int times = 0;
        for (int z = 0; z <= 499; z++) {
            times += first(z, day, eager) == t ? 1 : 0;
        }
        return times;
    }
}
