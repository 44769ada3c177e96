/** Plays for the promises that their titles name; see Due for what the lines mean. */
public final class TextTest {
    public static void main(String[] arguments) {
        Due.play("Promise 1: a new object has no text, an empty tape, no fault, no run, nothing kept", """
            fault(*) = -1 -1 -1
            load(1) = -2
            load(-1) = -2
            member(0, *) = -1 -1 -1 -1 -1 -1 -1 -1
            node(0, 0, 0) = -1
            way(0, 0, 0) = -1
            state(*) = 0 -1 -1 -1 -1 -1 -1 -1 -1 -1
            begin(0, 0, 0, 0) = -1
            run(0) = -1
            weigh(0) = -1
            weigh(1) = -1
            printed(0) = 0
            thread(0, 0) = -1
            count(0, 0) = -1
            gone(0, 0) = -1
            path(0, 0, 0) = -1
            most(0, 0) = -1
            loop(0, 0, 0) = -1
            tree(0, 0) = -1
            look() = -1
            seen(0, 0) = -1
            seen(-1, 0) = -1
            made(0, 0) = -1
            held(0) = -1
            lock(0, 0) = -1
            longest(0) = -1
            gain(3, 1) = -1
            thrown(0, 0) = -1
            watch(0, 0, 3) = -1
            kept(0, -1, *) = 0 0 0 0 0 0
            keep(0) = -1
            parts(0, *) = 0 0 0 0
            bound(0, -1, *) = -1 -1 -1
            worst(0, 1, 1, 1, 1) = -1
            """);
        Due.play("Promise 1: prices are 1 (of an element 0), arguments 0", """
            price(2, 1) = -1
            price(3, 2) = 1
            price(16, 2) = 1
            price(17, 2) = 0
            price(18, 2) = -1
            argument(0, 5) = 0
            argument(3, 5) = 0
            argument(4, 5) = -1
            """);
        Due.play("Promise 2: feed puts twenty bytes behind the others, the highest first, up to 2,000", """
            feed(1630022013, 0, 0, 0, 0) = 20
            feed(-1, -1, -1, -1, -1) = 40
            load(41) = -2
            load(4) = -1
            fault(*) = 1 3
            load(1) = -2
            """);
        Due.play("Promise 2: the hundredth feed fills the tape, one more is NONE", """
            fill(99) = 1980
            feed(0, 0, 0, 0, 0) = 2000
            feed(0, 0, 0, 0, 0) = -1
            load(2001) = -2
            load(2000) = -1
            fault(*) = 1 0
            """);
        Due.play("Promise 3: load takes the first n bytes, and the tape is empty then", """
            text `a(){} b(){x=1;}` = 2
            load(1) = -2
            feed(1630022013, 0, 0, 0, 0) = 20
            load(4) = -1
            """);
        Due.play("Promise 3: with a FAULT the text that there was stays, with its run and all of it", """
            text `a(){x=7;print x;}b(){}` = 2
            watch(0, 0, 3) = 1
            begin(0, 0, 0, 0) = 1
            run(2) = 2
            keep(0) = 1
            keep(1) = 1
            bad `a(){` = 1 4
            bad `a(){}a(){}` = 2 5
            load(-1) = -2
            load(1) = -2
            member(0, 3) = 5
            member(1, 3) = 3
            state(*) = 2 2 -1 1 1 2
            printed(0) = 7
            kept(0, 0, *) = 7 1
            parts(0, 0) = 0
            run(1) = 0
            count(0, 0) = 1
            """);
        Due.play("Promise 3: a text ends the run, what is kept and watched, and weights by counts", """
            text `a(){x=7;while(x<9){x=x+1;}}` = 1
            watch(0, 0, 5) = 1
            begin(0, 0, 0, 0) = 1
            run(20000) = 6
            keep(0) = 1
            keep(1) = 1
            kept(0, -1, 0) = 2
            parts(0, 0) = 0
            weigh(1) = 1
            way(0, 3, 4) = 2
            begin(0, 0, 0, 0) = 1
            text `a(){x=7;while(x<9){x=x+1;}}` = 1
            state(0) = 0
            state(1) = -1
            kept(0, -1, 0) = 0
            keep(0) = -1
            way(0, 3, 4) = 10
            begin(0, 0, 0, 0) = 1
            run(20000) = 6
            kept(0, -1, 0) = 0
            keep(0) = 1
            parts(0, 0) = 0
            """);
        Due.play("Promise 3: prices and arguments outlive a text", """
            price(3, 9) = 1
            argument(0, 4) = 0
            text `a(p){x=p;}` = 1
            price(3, 9) = 9
            argument(0, 4) = 4
            """);
        Due.play("Promise 4: without a fault", """
            text `a(){}` = 1
            fault(*) = 0 -1 -1
            fault(-1) = -1
            """);
        Due.play("Promise 4: FAULT 1, the first token with which no text goes on, or the end", """
            bad `a` = 1 1
            bad `a(` = 1 2
            bad `a()` = 1 3
            bad `a(){` = 1 4
            bad `a(){}}` = 1 5
            bad `a(){} ?` = 1 6
            bad `a(){};` = 1 5
            bad `a(){x}` = 1 5
            bad `a(){x+1;}` = 1 5
            bad `a(){x=;}` = 1 6
            bad `a(){x=1}` = 1 7
            bad `a(){x=1 2;}` = 1 8
            bad `a(){x=1=2=3;}` = 1 9
            bad `a(){x=a b;}` = 1 8
            bad `a(){if x{}}` = 1 7
            bad `a(){if(x){}else x=1;}` = 1 16
            bad `a(){else{}}` = 1 4
            bad `a(){try{}}` = 1 9
            bad `a(){try{}catch{}}` = 1 14
            bad `a(){for i=1 2{}}` = 1 12
            bad `a(){for 1=1 to 2{}}` = 1 8
            bad `a(){return;}` = 1 10
            bad `a(){break 1;}` = 1 10
            bad `a(){lock{}}` = 1 8
            bad `a(){x=start 1;}` = 1 12
            bad `a(){x=start a;}` = 1 13
            bad `a(){x=new 3;}` = 1 10
            bad `a(){x=len;}` = 1 9
            bad `a(){x[1]=;}` = 1 9
            bad `a(){x[=1;}` = 1 6
            bad `a(){a(,);}` = 1 6
            bad `a(){a(1,);}` = 1 8
            bad `a(,){}` = 1 2
            bad `a(p,){}` = 1 4
            bad `a(1){}` = 1 2
            bad `var a;` = 1 6
            bad `var 1;a(){}` = 1 4
            bad `var a b(){}` = 1 6
            bad `a(){}var b;` = 1 5
            bad `to(){}` = 1 0
            bad `a(nil){}` = 1 2
            bad `a(){len=1;}` = 1 4
            bad `a(){x=1;  ` = 1 10
            bad `` = 1 0
            bad `   ` = 1 3
            """);
        Due.play("Promise 4: FAULT 1 at a byte that begins no token, at a word or a number too long", """
            bad `a(){x=1?2;}` = 1 7
            bad `a(){X=1;}` = 1 4
            bad `a(){x=abcdefghi;}` = 1 6
            bad `a(){x=12345678901;}` = 1 6
            bad `abcdefghi(){}` = 1 0
            text `abcdefgh(){x=123456789;}` = 1
            bad `a(){x=12a;}` = 1 8
            bad `a(){x=a_b;}` = 1 7
            """);
        Due.play("Promise 4: words of 8 and numbers of 9 are tokens, blanks and bytes 10 stand between", """
            text `abcdefg8 ( p ) { x = 123456789 ;~ print x ; }` = 1
            member(0, 0) = 0
            node(0, 4, 1) = 34
            fault(*) = 0 -1
            """);
        Due.play("Promise 4: FAULT 1 at the 13th that is open", """
            text `a(){x=(((((((((((1)))))))))));}` = 1
            bad `a(){x=((((((((((((1))))))))))));}` = 1 17
            text `a(){x=-----------1;}` = 1
            bad `a(){x=------------1;}` = 1 17
            bad `a(){x=len !-len !-len !-len !-len !-1;}` = 1 29
            text `a(){x=1;x=-1-1-1-1-1-1-1-1-1-1-1-1-1-1;}` = 1
            text `a(){lock 1{lock 1{lock 1{lock 1{lock 1{lock 1{lock 1{lock 1{lock 1{lock 1{lock 1{}}}}}}}}}}}}` = 1
            bad `a(){lock 1{lock 1{lock 1{lock 1{lock 1{lock 1{lock 1{lock 1{lock 1{lock 1{lock 1{lock 1{}}}}}}}}}}}}}` = 1 87
            bad `a(){lock 1{lock 1{lock 1{lock 1{lock 1{lock 1{lock 1{lock 1{lock 1{lock 1{lock 1{if(1){}}}}}}}}}}}}}` = 1 83
            text `a(x){x=-x[-x[-x[-x[-x[-1]]]]];}` = 1
            bad `a(x){x=-x[-x[-x[-x[-x[-x[-1]]]]]];}` = 1 24
            """);
        Due.play("Promise 4: FAULT 1 is told ahead of FAULT 2", """
            bad `a(){break;x=y;}}` = 1 15
            """);
        Due.play("Promise 4: FAULT 2 of vars and members", """
            bad `var a;var b;var a;c(){}` = 2 16
            bad `var a;a(){}` = 2 6
            bad `a(){}b(){}a(){}` = 2 10
            text `var a;var b;var c;var d;var e;var f;var g;var h;z(){}` = 1
            bad `var a;var b;var c;var d;var e;var f;var g;var h;var i;z(){}` = 2 52
            text `a(){}b(){}c(){}d(){}e(){}f(){}g(){}h(){}i(){}j(){}k(){}l(){}m(){}n(){}o(){}p(){}q(){}r(){}s(){}t(){}u(){}v(){}w(){}x(){}` = 24
            bad `a(){}b(){}c(){}d(){}e(){}f(){}g(){}h(){}i(){}j(){}k(){}l(){}m(){}n(){}o(){}p(){}q(){}r(){}s(){}t(){}u(){}v(){}w(){}x(){}y(){}` = 2 120
            bad `a(){y();}b(){}c(){}d(){}e(){}f(){}g(){}h(){}i(){}j(){}k(){}l(){}m(){}n(){}o(){}p(){}q(){}r(){}s(){}t(){}u(){}v(){}w(){}x(){}y(){}` = 2 124
            """);
        Due.play("Promise 4: FAULT 2 of parameters", """
            bad `a(p,q,p){}` = 2 6
            bad `var q;a(p,q){}` = 2 10
            text `a(p,q,r,s){}` = 1
            bad `a(p,q,r,s,t){}` = 2 10
            text `a(a){a=a;}b(a){}` = 2
            """);
        Due.play("Promise 4: FAULT 2 of NAMES: the 17th one, a for's W that is set in its body, vars of for and catch", """
            text `a(p,q,r,s){b=1;c=1;d=1;e=1;f=1;g=1;h=1;i=1;j=1;k=1;l=1;for m=1 to 2{}b=2;}` = 1
            bad `a(p,q,r,s){b=1;c=1;d=1;e=1;f=1;g=1;h=1;i=1;j=1;k=1;l=1;m=n;b=2;try{}catch n{}n=2;}` = 2 74
            bad `a(p,q,r,s){print z;b=1;c=1;d=1;e=1;f=1;g=1;h=1;i=1;j=1;k=1;l=1;m=1;n=1;z=1;}` = 2 67
            text `var v;a(p,q,r,s){b=1;c=1;d=1;e=1;f=1;g=1;h=1;i=1;j=1;k=1;l=1;m=1;v=1;}` = 1
            bad `var v;a(){for v=1 to 2{}}` = 2 14
            bad `var v;a(){try{}catch v{}}` = 2 21
            bad `a(){for i=1 to 2{i=3;}}` = 2 17
            bad `a(){for i=1 to 2{if(1){for j=1 to 2{try{}catch i{}}}}}` = 2 47
            bad `a(){for i=1 to 2{for i=1 to 2{}}}` = 2 21
            text `a(){for i=1 to 2{}i=3;for i=1 to i{j=i;}try{}catch i{}}` = 1
            """);
        Due.play("Promise 4: FAULT 2 of what is read, called, and of break", """
            bad `a(){x=y;}` = 2 6
            bad `a(){x=1;y[x]=2;}` = 2 8
            bad `a(){x=1;x=x+y[x];}` = 2 12
            text `a(){print y;y=1;}` = 1
            text `var y;a(){print y;y[1]=1;}` = 1
            bad `a(){x=1;}b(){print x;}` = 2 19
            bad `a(){x=1;x();}` = 2 8
            bad `var v;a(){v();}` = 2 10
            bad `a(){b(1);}b(){}` = 2 4
            bad `a(){x=b(1,2)+c();}b(p,q){}` = 2 13
            bad `a(){x=start b();}b(p){}` = 2 12
            text `a(){c(1);x=start b();}b(){}c(p){}` = 3
            text `a(){b=b(1)+b;}b(p){return p;}` = 2
            bad `a(){break;}` = 2 4
            bad `a(){if(1){break;}while(1){}}` = 2 10
            text `a(){while(1){if(1){break;}}for i=1 to 2{break;}}` = 1
            bad `a(){while(1){break;}break;}` = 2 20
            bad `a(){b();b=x;}` = 2 4
            """);
        Due.play("Promise 4: FAULT 1 where a counterpart is missing, and what is open up to a factor's end alone", """
            bad `a(p{}` = 1 3
            bad `a(){x=(1;}` = 1 8
            bad `a(){x=x[1;}` = 1 9
            bad `a(){x=new[1;}` = 1 11
            bad `a(){x[1=2;}` = 1 9
            bad `a(){a(1;}` = 1 7
            bad `a(){if(1{}}` = 1 8
            bad `a(){x=(1];}` = 1 8
            text `a(){x=-1+-1+-1+-1+-1+-1+-1+-1+-1+-1+-1+-1+-1+-1+-1;y=len x+len x+len x+len x+len x+len x+len x+len x+len x+len x+len x+len x;}` = 1
            text `a(){x=(1)+(1)+(1)+(1)+(1)+(1)+(1)+(1)+(1)+(1)+(1)+(1)+(1);if(1){}if(1){}if(1){}if(1){}if(1){}if(1){}if(1){}if(1){}if(1){}if(1){}if(1){}if(1){}}` = 1
            """);
        Due.play("Promise 4: words are the same by all their letters and digits", """
            bad `a(){az=1;print a0;}` = 2 15
            bad `a(){abcdefg1=1;print abcdefg2;}` = 2 21
            bad `a(){a=1;print aa;}` = 2 14
            text `a(){a=1;aa=2;a1=3;a11=4;print a+aa+a1+a11;}` = 1
            member(0, 2) = 4
            """);
        Due.play("Promise 3: texts again and again", """
            text `a(){$480[a=b;$]b=1;}` = 1
            member(0, *) = 0 0 2 484 963 0 482 482
            way(0, 960, *) = 482 2 3 0 0 1
            begin(0, 0, 0, 0) = 1
            run(20000) = 481
            state(*) = 2 481
            text `a(){$480[a=b;$]b=1;}` = 1
            bad `a(){` = 1 4
            member(0, *) = 0 0 2 484 963 0 482 482
            text `a(){$480[a=b;$]b=1;}` = 1
            text `a(){$480[a=b;$]b=1;}` = 1
            member(0, *) = 0 0 2 484 963 0 482 482
            begin(0, 0, 0, 0) = 1
            run(20000) = 481
            count(0, 961) = 1
            """);
        Due.end("TextTest");
    }
}
