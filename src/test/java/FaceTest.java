/** Promise 1: a new object has nothing, and the constant is as the document says. */
public final class FaceTest {
    public static void main(String[] args) {
        Check check = new Check("FaceTest");
        HalfDays x = new HalfDays();
        check.due("NONE", HalfDays.NONE, -1);
        for (int what = 0; what <= 9; what++) {
            check.due("count(" + what + ")", x.count(what), 0);
        }
        check.due("status()", x.status(), 0);
        check.due("fault()", x.fault(), -1);
        check.close();
    }
}
