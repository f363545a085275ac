/** Promise 1: what a new object holds. */
public final class NewObjectTest {
    private NewObjectTest() {
    }

    public static void main(String[] args) {
        Equalbook x = new Equalbook();
        String[] texts = {"o", "a", "b", "x", "y", "z"};
        for (int t = 0; t < texts.length; t++) {
            int at = t;
            Due.is("text(" + t + ")", texts[t], () -> x.text(at));
        }
        Due.fails("text(6)", IndexOutOfBoundsException.class, () -> x.text(6));
        Due.is("house(0)", 6, () -> x.house(0));
        Due.is("house(1)", 3, () -> x.house(1));
        for (int what = 2; what <= 6; what++) {
            int asked = what;
            int want = 0;
            Due.is("house(" + what + ")", want, () -> x.house(asked));
        }
        for (int b = 0; b < 2; b++) {
            int book = b;
            int[] want = {0, 0, 0, 0, 0, 0, 3, 512, -1};
            for (int w = 0; w < want.length; w++) {
                int what = w;
                Due.is("ofBook(" + b + ", " + w + ")", want[w], () -> x.ofBook(book, what));
            }
        }
        for (int p = 0; p < 3; p++) {
            int proof = p;
            Due.is("firstWrong(" + p + ")", -1, () -> x.firstWrong(proof));
            Due.fails("line(" + p + ", 0)", IndexOutOfBoundsException.class, () -> x.line(proof, 0));
        }
        Due.is("isSound()", true, () -> x.isSound());
        Due.end("NewObjectTest");
    }
}
