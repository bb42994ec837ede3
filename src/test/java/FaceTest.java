/** The promises of the face, each with its edges and wrong inputs. */
public final class FaceTest {
    public static void main(String[] args) {
        House h = new House();
        h.isAll("X = 1 ; X = 2", "X = 1; X = 2; no");
        House.finish();
    }
}
