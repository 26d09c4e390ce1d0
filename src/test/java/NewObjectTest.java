/** Promise 1. */
public final class NewObjectTest {
    public static void main(String[] args) {
        LateFalls x = new LateFalls();
        int[] counts = {0, 1, 1, 0, 0, 0, 0, 0, 0, 0, 0, 0};
        for (int what = 0; what < counts.length; what++) {
            Check.due("count(" + what + ") of a new object", x.count(what), counts[what]);
        }
        Check.due("fault(0)", x.fault(0), 0);
        Check.due("fault(1)", x.fault(1), LateFalls.NONE);
        for (int i = 0; i < 4; i++) {
            int tray = i;
            Check.badState("copy of a missing tray", () -> x.copy(tray));
        }
        for (int i = 0; i < 3; i++) {
            int image = i;
            Check.badState("restore of no image", () -> { x.restore(image); return 0; });
        }
        Check.end();
    }
}
