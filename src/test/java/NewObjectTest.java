/** Promise 1: a new object. */
final class NewObjectTest {
    public static void main(String[] args) {
        Due due = new Due();
        RangeBox box = new RangeBox();
        for (int k = 0; k < 16; k++) {
            due.range("new", box, k, 0, 0);
        }
        for (int k = 0; k < 16; k++) {
            box.put(k, -k - 1, k + 1);
        }
        RangeBox second = new RangeBox();
        for (int k = 0; k < 16; k++) {
            due.range("a second object", second, k, 0, 0);
            due.range("the first object", box, k, -k - 1, k + 1);
        }
        due.end();
    }
}
