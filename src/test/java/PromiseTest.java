/** For each promise of the document: ordinary inputs, its edges, and wrong inputs. */
public final class PromiseTest {
    public static void main(String[] args) {
        Kit.due("judge of LOOP", Kit.judge(new BoundHouse(), Texts.LOOP), 0);
        Kit.end();
    }
}
