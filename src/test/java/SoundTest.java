/** Promise 51: no call makes a bank unsound, so this breaks one thing at a time from inside. */
public final class SoundTest {
    public static void main(String[] args) throws ReflectiveOperationException {
        Check.due("a new bank", new Pegdraw().isSound(), true);
        Check.due("a match", match().isSound(), true);
        broken("fright of 100", "bank.fish.0.fright", 100);
        broken("fright of -1", "bank.fish.0.fright", -1);
        broken("hunger of 100", "bank.fish.1.hunger", 100);
        broken("hunger of -1", "bank.fish.1.hunger", -1);
        broken("feed of 100 in the first swim", "bank.swims.0.feed", 100);
        broken("feed of 100", "bank.swims.2.feed", 100);
        broken("feed of -1", "bank.swims.2.feed", -1);
        broken("nine in a net", "anglers.0.net.count", 9);
        broken("9001 in a net", "anglers.1.net.weight", 9001);
        broken("two at a peg", "anglers.1.peg", 0);
        broken("weight that was not stocked", "bank.fish.1.weight", 5000);
        broken("a fish that is nowhere", "bank.fish.1.state", 'x');
        Check.due("levels at their ends", with("bank.fish.0.fright", 99).isSound(), true);
        Check.due("levels at their ends", with("bank.swims.0.feed", 99).isSound(), true);
        Check.due("levels at their ends", with("bank.fish.0.hunger", 0).isSound(), true);
        Check.due("eight in a net", with("anglers.0.net.count", 8).isSound(), true);
        Check.due("9000 in a net", with("anglers.0.net.weight", 9000).isSound(), true);
        Check.due("a line in a match", with("anglers.0.line", 1).isSound(), true);
        Pegdraw over = match();
        Scene.end(over);
        Check.due("no line behind it", over.isSound(), true);
        Inside.set(over, "anglers.0.line", 1);
        Check.due("a line behind it", over.isSound(), false);
        Check.end();
    }

    private static Pegdraw match() {
        Pegdraw x = Scene.match(0, 9);
        x.stock(0, 0, 30);
        x.stock(1, 0, 40);
        x.cast(0, 0);
        Scene.land(x, 0);
        return x;
    }

    private static Pegdraw with(String path, Object value) throws ReflectiveOperationException {
        Pegdraw x = match();
        Inside.set(x, path, value);
        return x;
    }

    private static void broken(String what, String path, Object value) throws ReflectiveOperationException {
        Check.due(what, with(path, value).isSound(), false);
    }
}
